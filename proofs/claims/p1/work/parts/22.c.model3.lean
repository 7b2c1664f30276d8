set_option maxHeartbeats 4000000 in
set_option maxRecDepth 100000 in
theorem c_X10_feed {l : Launch} {D : va_G} {kA : Nat → ClassId} {M : mM} {T : mT} {sz : Nat} {h al mt ii pa li : Nat} {a b c_ d e_ : Int32} (hc_h : M h = some (.inr (8, [.ref al, .ref mt, .ref ii, .int 0, .int (-1), .ref pa, .int 0, .int 0, .int 0, .int 0, .int 0, .long 0, .int 0, .ref li]))) (ht_mt : T mt = some 11) : mCi l yX10_feed cX10_feed 8 (some .int) 0 0 0 D kA M T sz [.ref h, .int a, .int b, .int c_, .int d, .int e_] (fun r u => (r = 20) ∧ u.2 = T ∧ (∀ q, q ≠ h → u.1 q = M q)) := by
  unfold mCi
  refine start_W (by decide) (Nat.le_of_ble_eq_true rfl) ?_
  intro p e s m below meth c ls hC hr hlk hnm hK hH hsz hl
  have hx := hC.1
  have hb := hC.2.1
  have hl : lv_has ls 8 [(0, .ref h), (1, .int a), (2, .int b), (3, .int c_), (4, .int d), (5, .int e_)] := hl
  have hF : ∀ q, q ≠ h → M q = M q := fun q _ => rfl
  refine lv_aload_n hx hb dX10_feed_0 rfl (lv_at hl 0 rfl) ?_
  refine xg hC hK hH flX10_180 hc_h rfl dX10_feed_1 ?_
  refine lv_bipush (v := 20) hx hb dX10_feed_4 (by decide) ?_
  refine lv_iadd hx hb dX10_feed_6 ?_
  refine lv_cst (v := 20) (by decide) ?_
  refine lv_sipush (v := 600) hx hb dX10_feed_7 (by decide) ?_
  refine jic_le (tgt := 15) hx hb dX10_feed_10 (by decide) (fun cq1_ => ?_) (fun cq1_ => absurd cq1_ (by decide))
  refine lv_iconst (v := 0) hx hb dX10_feed_15 (by decide) ?_
  refine lv_istore (lv' := [(6, .int 0), (0, .ref h), (1, .int a), (2, .int b), (3, .int c_), (4, .int d), (5, .int e_)]) hx hb dX10_feed_16 hl (by decide) rfl (fun ls hl => ?_)
  refine lv_iload hx hb dX10_feed_18 (lv_at hl 0 rfl) ?_
  refine lv_bipush (v := 20) hx hb dX10_feed_20 (by decide) ?_
  refine jic_ge (tgt := 108) hx hb dX10_feed_22 (by decide) (fun cq2_ => absurd cq2_ (by decide)) (fun cq2_ => ?_)
  refine lv_iload hx hb dX10_feed_25 (lv_at hl 0 rfl) ?_
  refine lv_iconst (v := 4) hx hb dX10_feed_27 (by decide) ?_
  refine jic_ge (tgt := 35) hx hb dX10_feed_28 (by decide) (fun cq3_ => absurd cq3_ (by decide)) (fun cq3_ => ?_)
  refine lv_iload_n hx hb dX10_feed_31 rfl (lv_at hl 2 rfl) ?_
  refine lv_goto (tgt := 71) hx hb dX10_feed_32 (by decide) ?_
  refine lv_istore (lv' := [(7, .int a), (6, .int 0), (0, .ref h), (1, .int a), (2, .int b), (3, .int c_), (4, .int d), (5, .int e_)]) hx hb dX10_feed_71 hl (by decide) rfl (fun ls hl => ?_)
  refine lv_aload_n hx hb dX10_feed_73 rfl (lv_at hl 2 rfl) ?_
  refine xg hC hK hH flX10_13 hc_h rfl dX10_feed_74 ?_
  refine lv_aload_n hx hb dX10_feed_77 rfl (lv_at hl 2 rfl) ?_
  refine xg hC hK hH flX10_180 hc_h rfl dX10_feed_78 ?_
  refine lv_iload hx hb dX10_feed_81 (lv_at hl 1 rfl) ?_
  refine lv_iadd hx hb dX10_feed_83 ?_
  refine lv_cst (v := 0) (by decide) ?_
  refine lv_iload hx hb dX10_feed_84 (lv_at hl 0 rfl) ?_
  refine lv_bipush (v := 24) hx hb dX10_feed_86 (by decide) ?_
  refine lv_bipush (v := 8) hx hb dX10_feed_88 (by decide) ?_
  refine lv_iload hx hb dX10_feed_90 (lv_at hl 1 rfl) ?_
  refine lv_iconst (v := 3) hx hb dX10_feed_92 (by decide) ?_
  refine lv_iand hx hb dX10_feed_93 ?_
  refine lv_topi (fun zq4_ e_zq4_ => ?_)
  refine lv_imul hx hb dX10_feed_94 ?_
  refine lv_topi (fun zq5_ e_zq5_ => ?_)
  refine lv_isub hx hb dX10_feed_95 ?_
  refine lv_topi (fun zq6_ e_zq6_ => ?_)
  refine lv_ishr hx hb dX10_feed_96 ?_
  refine lv_topi (fun zq7_ e_zq7_ => ?_)
  refine lv_sipush (v := 255) hx hb dX10_feed_97 (by decide) ?_
  refine lv_iand hx hb dX10_feed_100 ?_
  refine lv_topi (fun zq8_ e_zq8_ => ?_)
  refine tist (x := zq8_) hC hK hH ht_mt rfl (iIn (by decide) (by decide)) (iRg _).1 (iRg _).2 dX10_feed_101 (fun Hq_ lcq_ hH => ?_)
  refine lv_iinc (v := 1) (lv' := [(6, .int 1), (7, .int a), (0, .ref h), (1, .int a), (2, .int b), (3, .int c_), (4, .int d), (5, .int e_)]) hx hb dX10_feed_102 hl (k := 1) rfl (by decide) (by decide) rfl (fun ls hl => ?_)
  refine lv_goto (tgt := 18) hx hb dX10_feed_105 (by decide) ?_
  refine lv_iload hx hb dX10_feed_18 (lv_at hl 0 rfl) ?_
  refine lv_bipush (v := 20) hx hb dX10_feed_20 (by decide) ?_
  refine jic_ge (tgt := 108) hx hb dX10_feed_22 (by decide) (fun cq9_ => absurd cq9_ (by decide)) (fun cq9_ => ?_)
  refine lv_iload hx hb dX10_feed_25 (lv_at hl 0 rfl) ?_
  refine lv_iconst (v := 4) hx hb dX10_feed_27 (by decide) ?_
  refine jic_ge (tgt := 35) hx hb dX10_feed_28 (by decide) (fun cq10_ => absurd cq10_ (by decide)) (fun cq10_ => ?_)
  refine lv_iload_n hx hb dX10_feed_31 rfl (lv_at hl 3 rfl) ?_
  refine lv_goto (tgt := 71) hx hb dX10_feed_32 (by decide) ?_
  refine lv_istore (lv' := [(7, .int a), (6, .int 1), (0, .ref h), (1, .int a), (2, .int b), (3, .int c_), (4, .int d), (5, .int e_)]) hx hb dX10_feed_71 hl (by decide) rfl (fun ls hl => ?_)
  refine lv_aload_n hx hb dX10_feed_73 rfl (lv_at hl 2 rfl) ?_
  refine xg hC hK hH flX10_13 hc_h rfl dX10_feed_74 ?_
  refine lv_aload_n hx hb dX10_feed_77 rfl (lv_at hl 2 rfl) ?_
  refine xg hC hK hH flX10_180 hc_h rfl dX10_feed_78 ?_
  refine lv_iload hx hb dX10_feed_81 (lv_at hl 1 rfl) ?_
  refine lv_iadd hx hb dX10_feed_83 ?_
  refine lv_cst (v := 1) (by decide) ?_
  refine lv_iload hx hb dX10_feed_84 (lv_at hl 0 rfl) ?_
  refine lv_bipush (v := 24) hx hb dX10_feed_86 (by decide) ?_
  refine lv_bipush (v := 8) hx hb dX10_feed_88 (by decide) ?_
  refine lv_iload hx hb dX10_feed_90 (lv_at hl 1 rfl) ?_
  refine lv_iconst (v := 3) hx hb dX10_feed_92 (by decide) ?_
  refine lv_iand hx hb dX10_feed_93 ?_
  refine lv_topi (fun zq11_ e_zq11_ => ?_)
  refine lv_imul hx hb dX10_feed_94 ?_
  refine lv_topi (fun zq12_ e_zq12_ => ?_)
  refine lv_isub hx hb dX10_feed_95 ?_
  refine lv_topi (fun zq13_ e_zq13_ => ?_)
  refine lv_ishr hx hb dX10_feed_96 ?_
  refine lv_topi (fun zq14_ e_zq14_ => ?_)
  refine lv_sipush (v := 255) hx hb dX10_feed_97 (by decide) ?_
  refine lv_iand hx hb dX10_feed_100 ?_
  refine lv_topi (fun zq15_ e_zq15_ => ?_)
  refine tist (x := zq15_) hC hK hH ht_mt rfl (iIn (by decide) (by decide)) (iRg _).1 (iRg _).2 dX10_feed_101 (fun Hq_ lcq_ hH => ?_)
  refine lv_iinc (v := 2) (lv' := [(6, .int 2), (7, .int a), (0, .ref h), (1, .int a), (2, .int b), (3, .int c_), (4, .int d), (5, .int e_)]) hx hb dX10_feed_102 hl (k := 1) rfl (by decide) (by decide) rfl (fun ls hl => ?_)
  refine lv_goto (tgt := 18) hx hb dX10_feed_105 (by decide) ?_
  refine lv_iload hx hb dX10_feed_18 (lv_at hl 0 rfl) ?_
  refine lv_bipush (v := 20) hx hb dX10_feed_20 (by decide) ?_
  refine jic_ge (tgt := 108) hx hb dX10_feed_22 (by decide) (fun cq16_ => absurd cq16_ (by decide)) (fun cq16_ => ?_)
  refine lv_iload hx hb dX10_feed_25 (lv_at hl 0 rfl) ?_
  refine lv_iconst (v := 4) hx hb dX10_feed_27 (by decide) ?_
  refine jic_ge (tgt := 35) hx hb dX10_feed_28 (by decide) (fun cq17_ => absurd cq17_ (by decide)) (fun cq17_ => ?_)
  refine lv_iload_n hx hb dX10_feed_31 rfl (lv_at hl 3 rfl) ?_
  refine lv_goto (tgt := 71) hx hb dX10_feed_32 (by decide) ?_
  refine lv_istore (lv' := [(7, .int a), (6, .int 2), (0, .ref h), (1, .int a), (2, .int b), (3, .int c_), (4, .int d), (5, .int e_)]) hx hb dX10_feed_71 hl (by decide) rfl (fun ls hl => ?_)
  refine lv_aload_n hx hb dX10_feed_73 rfl (lv_at hl 2 rfl) ?_
  refine xg hC hK hH flX10_13 hc_h rfl dX10_feed_74 ?_
  refine lv_aload_n hx hb dX10_feed_77 rfl (lv_at hl 2 rfl) ?_
  refine xg hC hK hH flX10_180 hc_h rfl dX10_feed_78 ?_
  refine lv_iload hx hb dX10_feed_81 (lv_at hl 1 rfl) ?_
  refine lv_iadd hx hb dX10_feed_83 ?_
  refine lv_cst (v := 2) (by decide) ?_
  refine lv_iload hx hb dX10_feed_84 (lv_at hl 0 rfl) ?_
  refine lv_bipush (v := 24) hx hb dX10_feed_86 (by decide) ?_
  refine lv_bipush (v := 8) hx hb dX10_feed_88 (by decide) ?_
  refine lv_iload hx hb dX10_feed_90 (lv_at hl 1 rfl) ?_
  refine lv_iconst (v := 3) hx hb dX10_feed_92 (by decide) ?_
  refine lv_iand hx hb dX10_feed_93 ?_
  refine lv_topi (fun zq18_ e_zq18_ => ?_)
  refine lv_imul hx hb dX10_feed_94 ?_
  refine lv_topi (fun zq19_ e_zq19_ => ?_)
  refine lv_isub hx hb dX10_feed_95 ?_
  refine lv_topi (fun zq20_ e_zq20_ => ?_)
  refine lv_ishr hx hb dX10_feed_96 ?_
  refine lv_topi (fun zq21_ e_zq21_ => ?_)
  refine lv_sipush (v := 255) hx hb dX10_feed_97 (by decide) ?_
  refine lv_iand hx hb dX10_feed_100 ?_
  refine lv_topi (fun zq22_ e_zq22_ => ?_)
  refine tist (x := zq22_) hC hK hH ht_mt rfl (iIn (by decide) (by decide)) (iRg _).1 (iRg _).2 dX10_feed_101 (fun Hq_ lcq_ hH => ?_)
  refine lv_iinc (v := 3) (lv' := [(6, .int 3), (7, .int a), (0, .ref h), (1, .int a), (2, .int b), (3, .int c_), (4, .int d), (5, .int e_)]) hx hb dX10_feed_102 hl (k := 1) rfl (by decide) (by decide) rfl (fun ls hl => ?_)
  refine lv_goto (tgt := 18) hx hb dX10_feed_105 (by decide) ?_
  refine lv_iload hx hb dX10_feed_18 (lv_at hl 0 rfl) ?_
  refine lv_bipush (v := 20) hx hb dX10_feed_20 (by decide) ?_
  refine jic_ge (tgt := 108) hx hb dX10_feed_22 (by decide) (fun cq23_ => absurd cq23_ (by decide)) (fun cq23_ => ?_)
  refine lv_iload hx hb dX10_feed_25 (lv_at hl 0 rfl) ?_
  refine lv_iconst (v := 4) hx hb dX10_feed_27 (by decide) ?_
  refine jic_ge (tgt := 35) hx hb dX10_feed_28 (by decide) (fun cq24_ => absurd cq24_ (by decide)) (fun cq24_ => ?_)
  refine lv_iload_n hx hb dX10_feed_31 rfl (lv_at hl 3 rfl) ?_
  refine lv_goto (tgt := 71) hx hb dX10_feed_32 (by decide) ?_
  refine lv_istore (lv' := [(7, .int a), (6, .int 3), (0, .ref h), (1, .int a), (2, .int b), (3, .int c_), (4, .int d), (5, .int e_)]) hx hb dX10_feed_71 hl (by decide) rfl (fun ls hl => ?_)
  refine lv_aload_n hx hb dX10_feed_73 rfl (lv_at hl 2 rfl) ?_
  refine xg hC hK hH flX10_13 hc_h rfl dX10_feed_74 ?_
  refine lv_aload_n hx hb dX10_feed_77 rfl (lv_at hl 2 rfl) ?_
  refine xg hC hK hH flX10_180 hc_h rfl dX10_feed_78 ?_
  refine lv_iload hx hb dX10_feed_81 (lv_at hl 1 rfl) ?_
  refine lv_iadd hx hb dX10_feed_83 ?_
  refine lv_cst (v := 3) (by decide) ?_
  refine lv_iload hx hb dX10_feed_84 (lv_at hl 0 rfl) ?_
  refine lv_bipush (v := 24) hx hb dX10_feed_86 (by decide) ?_
  refine lv_bipush (v := 8) hx hb dX10_feed_88 (by decide) ?_
  refine lv_iload hx hb dX10_feed_90 (lv_at hl 1 rfl) ?_
  refine lv_iconst (v := 3) hx hb dX10_feed_92 (by decide) ?_
  refine lv_iand hx hb dX10_feed_93 ?_
  refine lv_topi (fun zq25_ e_zq25_ => ?_)
  refine lv_imul hx hb dX10_feed_94 ?_
  refine lv_topi (fun zq26_ e_zq26_ => ?_)
  refine lv_isub hx hb dX10_feed_95 ?_
  refine lv_topi (fun zq27_ e_zq27_ => ?_)
  refine lv_ishr hx hb dX10_feed_96 ?_
  refine lv_topi (fun zq28_ e_zq28_ => ?_)
  refine lv_sipush (v := 255) hx hb dX10_feed_97 (by decide) ?_
  refine lv_iand hx hb dX10_feed_100 ?_
  refine lv_topi (fun zq29_ e_zq29_ => ?_)
  refine tist (x := zq29_) hC hK hH ht_mt rfl (iIn (by decide) (by decide)) (iRg _).1 (iRg _).2 dX10_feed_101 (fun Hq_ lcq_ hH => ?_)
  refine lv_iinc (v := 4) (lv' := [(6, .int 4), (7, .int a), (0, .ref h), (1, .int a), (2, .int b), (3, .int c_), (4, .int d), (5, .int e_)]) hx hb dX10_feed_102 hl (k := 1) rfl (by decide) (by decide) rfl (fun ls hl => ?_)
  refine lv_goto (tgt := 18) hx hb dX10_feed_105 (by decide) ?_
  refine lv_iload hx hb dX10_feed_18 (lv_at hl 0 rfl) ?_
  refine lv_bipush (v := 20) hx hb dX10_feed_20 (by decide) ?_
  refine jic_ge (tgt := 108) hx hb dX10_feed_22 (by decide) (fun cq30_ => absurd cq30_ (by decide)) (fun cq30_ => ?_)
  refine lv_iload hx hb dX10_feed_25 (lv_at hl 0 rfl) ?_
  refine lv_iconst (v := 4) hx hb dX10_feed_27 (by decide) ?_
  refine jic_ge (tgt := 35) hx hb dX10_feed_28 (by decide) (fun cq31_ => ?_) (fun cq31_ => absurd cq31_ (by decide))
  refine lv_iload hx hb dX10_feed_35 (lv_at hl 0 rfl) ?_
  refine lv_bipush (v := 8) hx hb dX10_feed_37 (by decide) ?_
  refine jic_ge (tgt := 46) hx hb dX10_feed_39 (by decide) (fun cq32_ => absurd cq32_ (by decide)) (fun cq32_ => ?_)
  refine lv_iload_n hx hb dX10_feed_42 rfl (lv_at hl 4 rfl) ?_
  refine lv_goto (tgt := 71) hx hb dX10_feed_43 (by decide) ?_
  refine lv_istore (lv' := [(7, .int b), (6, .int 4), (0, .ref h), (1, .int a), (2, .int b), (3, .int c_), (4, .int d), (5, .int e_)]) hx hb dX10_feed_71 hl (by decide) rfl (fun ls hl => ?_)
  refine lv_aload_n hx hb dX10_feed_73 rfl (lv_at hl 2 rfl) ?_
  refine xg hC hK hH flX10_13 hc_h rfl dX10_feed_74 ?_
  refine lv_aload_n hx hb dX10_feed_77 rfl (lv_at hl 2 rfl) ?_
  refine xg hC hK hH flX10_180 hc_h rfl dX10_feed_78 ?_
  refine lv_iload hx hb dX10_feed_81 (lv_at hl 1 rfl) ?_
  refine lv_iadd hx hb dX10_feed_83 ?_
  refine lv_cst (v := 4) (by decide) ?_
  refine lv_iload hx hb dX10_feed_84 (lv_at hl 0 rfl) ?_
  refine lv_bipush (v := 24) hx hb dX10_feed_86 (by decide) ?_
  refine lv_bipush (v := 8) hx hb dX10_feed_88 (by decide) ?_
  refine lv_iload hx hb dX10_feed_90 (lv_at hl 1 rfl) ?_
  refine lv_iconst (v := 3) hx hb dX10_feed_92 (by decide) ?_
  refine lv_iand hx hb dX10_feed_93 ?_
  refine lv_topi (fun zq33_ e_zq33_ => ?_)
  refine lv_imul hx hb dX10_feed_94 ?_
  refine lv_topi (fun zq34_ e_zq34_ => ?_)
  refine lv_isub hx hb dX10_feed_95 ?_
  refine lv_topi (fun zq35_ e_zq35_ => ?_)
  refine lv_ishr hx hb dX10_feed_96 ?_
  refine lv_topi (fun zq36_ e_zq36_ => ?_)
  refine lv_sipush (v := 255) hx hb dX10_feed_97 (by decide) ?_
  refine lv_iand hx hb dX10_feed_100 ?_
  refine lv_topi (fun zq37_ e_zq37_ => ?_)
  refine tist (x := zq37_) hC hK hH ht_mt rfl (iIn (by decide) (by decide)) (iRg _).1 (iRg _).2 dX10_feed_101 (fun Hq_ lcq_ hH => ?_)
  refine lv_iinc (v := 5) (lv' := [(6, .int 5), (7, .int b), (0, .ref h), (1, .int a), (2, .int b), (3, .int c_), (4, .int d), (5, .int e_)]) hx hb dX10_feed_102 hl (k := 1) rfl (by decide) (by decide) rfl (fun ls hl => ?_)
  refine lv_goto (tgt := 18) hx hb dX10_feed_105 (by decide) ?_
  refine lv_iload hx hb dX10_feed_18 (lv_at hl 0 rfl) ?_
  refine lv_bipush (v := 20) hx hb dX10_feed_20 (by decide) ?_
  refine jic_ge (tgt := 108) hx hb dX10_feed_22 (by decide) (fun cq38_ => absurd cq38_ (by decide)) (fun cq38_ => ?_)
  refine lv_iload hx hb dX10_feed_25 (lv_at hl 0 rfl) ?_
  refine lv_iconst (v := 4) hx hb dX10_feed_27 (by decide) ?_
  refine jic_ge (tgt := 35) hx hb dX10_feed_28 (by decide) (fun cq39_ => ?_) (fun cq39_ => absurd cq39_ (by decide))
  refine lv_iload hx hb dX10_feed_35 (lv_at hl 0 rfl) ?_
  refine lv_bipush (v := 8) hx hb dX10_feed_37 (by decide) ?_
  refine jic_ge (tgt := 46) hx hb dX10_feed_39 (by decide) (fun cq40_ => absurd cq40_ (by decide)) (fun cq40_ => ?_)
  refine lv_iload_n hx hb dX10_feed_42 rfl (lv_at hl 4 rfl) ?_
  refine lv_goto (tgt := 71) hx hb dX10_feed_43 (by decide) ?_
  refine lv_istore (lv' := [(7, .int b), (6, .int 5), (0, .ref h), (1, .int a), (2, .int b), (3, .int c_), (4, .int d), (5, .int e_)]) hx hb dX10_feed_71 hl (by decide) rfl (fun ls hl => ?_)
  refine lv_aload_n hx hb dX10_feed_73 rfl (lv_at hl 2 rfl) ?_
  refine xg hC hK hH flX10_13 hc_h rfl dX10_feed_74 ?_
  refine lv_aload_n hx hb dX10_feed_77 rfl (lv_at hl 2 rfl) ?_
  refine xg hC hK hH flX10_180 hc_h rfl dX10_feed_78 ?_
  refine lv_iload hx hb dX10_feed_81 (lv_at hl 1 rfl) ?_
  refine lv_iadd hx hb dX10_feed_83 ?_
  refine lv_cst (v := 5) (by decide) ?_
  refine lv_iload hx hb dX10_feed_84 (lv_at hl 0 rfl) ?_
  refine lv_bipush (v := 24) hx hb dX10_feed_86 (by decide) ?_
  refine lv_bipush (v := 8) hx hb dX10_feed_88 (by decide) ?_
  refine lv_iload hx hb dX10_feed_90 (lv_at hl 1 rfl) ?_
  refine lv_iconst (v := 3) hx hb dX10_feed_92 (by decide) ?_
  refine lv_iand hx hb dX10_feed_93 ?_
  refine lv_topi (fun zq41_ e_zq41_ => ?_)
  refine lv_imul hx hb dX10_feed_94 ?_
  refine lv_topi (fun zq42_ e_zq42_ => ?_)
  refine lv_isub hx hb dX10_feed_95 ?_
  refine lv_topi (fun zq43_ e_zq43_ => ?_)
  refine lv_ishr hx hb dX10_feed_96 ?_
  refine lv_topi (fun zq44_ e_zq44_ => ?_)
  refine lv_sipush (v := 255) hx hb dX10_feed_97 (by decide) ?_
  refine lv_iand hx hb dX10_feed_100 ?_
  refine lv_topi (fun zq45_ e_zq45_ => ?_)
  refine tist (x := zq45_) hC hK hH ht_mt rfl (iIn (by decide) (by decide)) (iRg _).1 (iRg _).2 dX10_feed_101 (fun Hq_ lcq_ hH => ?_)
  refine lv_iinc (v := 6) (lv' := [(6, .int 6), (7, .int b), (0, .ref h), (1, .int a), (2, .int b), (3, .int c_), (4, .int d), (5, .int e_)]) hx hb dX10_feed_102 hl (k := 1) rfl (by decide) (by decide) rfl (fun ls hl => ?_)
  refine lv_goto (tgt := 18) hx hb dX10_feed_105 (by decide) ?_
  refine lv_iload hx hb dX10_feed_18 (lv_at hl 0 rfl) ?_
  refine lv_bipush (v := 20) hx hb dX10_feed_20 (by decide) ?_
  refine jic_ge (tgt := 108) hx hb dX10_feed_22 (by decide) (fun cq46_ => absurd cq46_ (by decide)) (fun cq46_ => ?_)
  refine lv_iload hx hb dX10_feed_25 (lv_at hl 0 rfl) ?_
  refine lv_iconst (v := 4) hx hb dX10_feed_27 (by decide) ?_
  refine jic_ge (tgt := 35) hx hb dX10_feed_28 (by decide) (fun cq47_ => ?_) (fun cq47_ => absurd cq47_ (by decide))
  refine lv_iload hx hb dX10_feed_35 (lv_at hl 0 rfl) ?_
  refine lv_bipush (v := 8) hx hb dX10_feed_37 (by decide) ?_
  refine jic_ge (tgt := 46) hx hb dX10_feed_39 (by decide) (fun cq48_ => absurd cq48_ (by decide)) (fun cq48_ => ?_)
  refine lv_iload_n hx hb dX10_feed_42 rfl (lv_at hl 4 rfl) ?_
  refine lv_goto (tgt := 71) hx hb dX10_feed_43 (by decide) ?_
  refine lv_istore (lv' := [(7, .int b), (6, .int 6), (0, .ref h), (1, .int a), (2, .int b), (3, .int c_), (4, .int d), (5, .int e_)]) hx hb dX10_feed_71 hl (by decide) rfl (fun ls hl => ?_)
  refine lv_aload_n hx hb dX10_feed_73 rfl (lv_at hl 2 rfl) ?_
  refine xg hC hK hH flX10_13 hc_h rfl dX10_feed_74 ?_
  refine lv_aload_n hx hb dX10_feed_77 rfl (lv_at hl 2 rfl) ?_
  refine xg hC hK hH flX10_180 hc_h rfl dX10_feed_78 ?_
  refine lv_iload hx hb dX10_feed_81 (lv_at hl 1 rfl) ?_
  refine lv_iadd hx hb dX10_feed_83 ?_
  refine lv_cst (v := 6) (by decide) ?_
  refine lv_iload hx hb dX10_feed_84 (lv_at hl 0 rfl) ?_
  refine lv_bipush (v := 24) hx hb dX10_feed_86 (by decide) ?_
  refine lv_bipush (v := 8) hx hb dX10_feed_88 (by decide) ?_
  refine lv_iload hx hb dX10_feed_90 (lv_at hl 1 rfl) ?_
  refine lv_iconst (v := 3) hx hb dX10_feed_92 (by decide) ?_
  refine lv_iand hx hb dX10_feed_93 ?_
  refine lv_topi (fun zq49_ e_zq49_ => ?_)
  refine lv_imul hx hb dX10_feed_94 ?_
  refine lv_topi (fun zq50_ e_zq50_ => ?_)
  refine lv_isub hx hb dX10_feed_95 ?_
  refine lv_topi (fun zq51_ e_zq51_ => ?_)
  refine lv_ishr hx hb dX10_feed_96 ?_
  refine lv_topi (fun zq52_ e_zq52_ => ?_)
  refine lv_sipush (v := 255) hx hb dX10_feed_97 (by decide) ?_
  refine lv_iand hx hb dX10_feed_100 ?_
  refine lv_topi (fun zq53_ e_zq53_ => ?_)
  refine tist (x := zq53_) hC hK hH ht_mt rfl (iIn (by decide) (by decide)) (iRg _).1 (iRg _).2 dX10_feed_101 (fun Hq_ lcq_ hH => ?_)
  refine lv_iinc (v := 7) (lv' := [(6, .int 7), (7, .int b), (0, .ref h), (1, .int a), (2, .int b), (3, .int c_), (4, .int d), (5, .int e_)]) hx hb dX10_feed_102 hl (k := 1) rfl (by decide) (by decide) rfl (fun ls hl => ?_)
  refine lv_goto (tgt := 18) hx hb dX10_feed_105 (by decide) ?_
  refine lv_iload hx hb dX10_feed_18 (lv_at hl 0 rfl) ?_
  refine lv_bipush (v := 20) hx hb dX10_feed_20 (by decide) ?_
  refine jic_ge (tgt := 108) hx hb dX10_feed_22 (by decide) (fun cq54_ => absurd cq54_ (by decide)) (fun cq54_ => ?_)
  refine lv_iload hx hb dX10_feed_25 (lv_at hl 0 rfl) ?_
  refine lv_iconst (v := 4) hx hb dX10_feed_27 (by decide) ?_
  refine jic_ge (tgt := 35) hx hb dX10_feed_28 (by decide) (fun cq55_ => ?_) (fun cq55_ => absurd cq55_ (by decide))
  refine lv_iload hx hb dX10_feed_35 (lv_at hl 0 rfl) ?_
  refine lv_bipush (v := 8) hx hb dX10_feed_37 (by decide) ?_
  refine jic_ge (tgt := 46) hx hb dX10_feed_39 (by decide) (fun cq56_ => absurd cq56_ (by decide)) (fun cq56_ => ?_)
  refine lv_iload_n hx hb dX10_feed_42 rfl (lv_at hl 4 rfl) ?_
  refine lv_goto (tgt := 71) hx hb dX10_feed_43 (by decide) ?_
  refine lv_istore (lv' := [(7, .int b), (6, .int 7), (0, .ref h), (1, .int a), (2, .int b), (3, .int c_), (4, .int d), (5, .int e_)]) hx hb dX10_feed_71 hl (by decide) rfl (fun ls hl => ?_)
  refine lv_aload_n hx hb dX10_feed_73 rfl (lv_at hl 2 rfl) ?_
  refine xg hC hK hH flX10_13 hc_h rfl dX10_feed_74 ?_
  refine lv_aload_n hx hb dX10_feed_77 rfl (lv_at hl 2 rfl) ?_
  refine xg hC hK hH flX10_180 hc_h rfl dX10_feed_78 ?_
  refine lv_iload hx hb dX10_feed_81 (lv_at hl 1 rfl) ?_
  refine lv_iadd hx hb dX10_feed_83 ?_
  refine lv_cst (v := 7) (by decide) ?_
  refine lv_iload hx hb dX10_feed_84 (lv_at hl 0 rfl) ?_
  refine lv_bipush (v := 24) hx hb dX10_feed_86 (by decide) ?_
  refine lv_bipush (v := 8) hx hb dX10_feed_88 (by decide) ?_
  refine lv_iload hx hb dX10_feed_90 (lv_at hl 1 rfl) ?_
  refine lv_iconst (v := 3) hx hb dX10_feed_92 (by decide) ?_
  refine lv_iand hx hb dX10_feed_93 ?_
  refine lv_topi (fun zq57_ e_zq57_ => ?_)
  refine lv_imul hx hb dX10_feed_94 ?_
  refine lv_topi (fun zq58_ e_zq58_ => ?_)
  refine lv_isub hx hb dX10_feed_95 ?_
  refine lv_topi (fun zq59_ e_zq59_ => ?_)
  refine lv_ishr hx hb dX10_feed_96 ?_
  refine lv_topi (fun zq60_ e_zq60_ => ?_)
  refine lv_sipush (v := 255) hx hb dX10_feed_97 (by decide) ?_
  refine lv_iand hx hb dX10_feed_100 ?_
  refine lv_topi (fun zq61_ e_zq61_ => ?_)
  refine tist (x := zq61_) hC hK hH ht_mt rfl (iIn (by decide) (by decide)) (iRg _).1 (iRg _).2 dX10_feed_101 (fun Hq_ lcq_ hH => ?_)
  refine lv_iinc (v := 8) (lv' := [(6, .int 8), (7, .int b), (0, .ref h), (1, .int a), (2, .int b), (3, .int c_), (4, .int d), (5, .int e_)]) hx hb dX10_feed_102 hl (k := 1) rfl (by decide) (by decide) rfl (fun ls hl => ?_)
  refine lv_goto (tgt := 18) hx hb dX10_feed_105 (by decide) ?_
  refine lv_iload hx hb dX10_feed_18 (lv_at hl 0 rfl) ?_
  refine lv_bipush (v := 20) hx hb dX10_feed_20 (by decide) ?_
  refine jic_ge (tgt := 108) hx hb dX10_feed_22 (by decide) (fun cq62_ => absurd cq62_ (by decide)) (fun cq62_ => ?_)
  refine lv_iload hx hb dX10_feed_25 (lv_at hl 0 rfl) ?_
  refine lv_iconst (v := 4) hx hb dX10_feed_27 (by decide) ?_
  refine jic_ge (tgt := 35) hx hb dX10_feed_28 (by decide) (fun cq63_ => ?_) (fun cq63_ => absurd cq63_ (by decide))
  refine lv_iload hx hb dX10_feed_35 (lv_at hl 0 rfl) ?_
  refine lv_bipush (v := 8) hx hb dX10_feed_37 (by decide) ?_
  refine jic_ge (tgt := 46) hx hb dX10_feed_39 (by decide) (fun cq64_ => ?_) (fun cq64_ => absurd cq64_ (by decide))
  refine lv_iload hx hb dX10_feed_46 (lv_at hl 0 rfl) ?_
  refine lv_bipush (v := 12) hx hb dX10_feed_48 (by decide) ?_
  refine jic_ge (tgt := 57) hx hb dX10_feed_50 (by decide) (fun cq65_ => absurd cq65_ (by decide)) (fun cq65_ => ?_)
  refine lv_iload_n hx hb dX10_feed_53 rfl (lv_at hl 5 rfl) ?_
  refine lv_goto (tgt := 71) hx hb dX10_feed_54 (by decide) ?_
  refine lv_istore (lv' := [(7, .int c_), (6, .int 8), (0, .ref h), (1, .int a), (2, .int b), (3, .int c_), (4, .int d), (5, .int e_)]) hx hb dX10_feed_71 hl (by decide) rfl (fun ls hl => ?_)
  refine lv_aload_n hx hb dX10_feed_73 rfl (lv_at hl 2 rfl) ?_
  refine xg hC hK hH flX10_13 hc_h rfl dX10_feed_74 ?_
  refine lv_aload_n hx hb dX10_feed_77 rfl (lv_at hl 2 rfl) ?_
  refine xg hC hK hH flX10_180 hc_h rfl dX10_feed_78 ?_
  refine lv_iload hx hb dX10_feed_81 (lv_at hl 1 rfl) ?_
  refine lv_iadd hx hb dX10_feed_83 ?_
  refine lv_cst (v := 8) (by decide) ?_
  refine lv_iload hx hb dX10_feed_84 (lv_at hl 0 rfl) ?_
  refine lv_bipush (v := 24) hx hb dX10_feed_86 (by decide) ?_
  refine lv_bipush (v := 8) hx hb dX10_feed_88 (by decide) ?_
  refine lv_iload hx hb dX10_feed_90 (lv_at hl 1 rfl) ?_
  refine lv_iconst (v := 3) hx hb dX10_feed_92 (by decide) ?_
  refine lv_iand hx hb dX10_feed_93 ?_
  refine lv_topi (fun zq66_ e_zq66_ => ?_)
  refine lv_imul hx hb dX10_feed_94 ?_
  refine lv_topi (fun zq67_ e_zq67_ => ?_)
  refine lv_isub hx hb dX10_feed_95 ?_
  refine lv_topi (fun zq68_ e_zq68_ => ?_)
  refine lv_ishr hx hb dX10_feed_96 ?_
  refine lv_topi (fun zq69_ e_zq69_ => ?_)
  refine lv_sipush (v := 255) hx hb dX10_feed_97 (by decide) ?_
  refine lv_iand hx hb dX10_feed_100 ?_
  refine lv_topi (fun zq70_ e_zq70_ => ?_)
  refine tist (x := zq70_) hC hK hH ht_mt rfl (iIn (by decide) (by decide)) (iRg _).1 (iRg _).2 dX10_feed_101 (fun Hq_ lcq_ hH => ?_)
  refine lv_iinc (v := 9) (lv' := [(6, .int 9), (7, .int c_), (0, .ref h), (1, .int a), (2, .int b), (3, .int c_), (4, .int d), (5, .int e_)]) hx hb dX10_feed_102 hl (k := 1) rfl (by decide) (by decide) rfl (fun ls hl => ?_)
  refine lv_goto (tgt := 18) hx hb dX10_feed_105 (by decide) ?_
  refine lv_iload hx hb dX10_feed_18 (lv_at hl 0 rfl) ?_
  refine lv_bipush (v := 20) hx hb dX10_feed_20 (by decide) ?_
  refine jic_ge (tgt := 108) hx hb dX10_feed_22 (by decide) (fun cq71_ => absurd cq71_ (by decide)) (fun cq71_ => ?_)
  refine lv_iload hx hb dX10_feed_25 (lv_at hl 0 rfl) ?_
  refine lv_iconst (v := 4) hx hb dX10_feed_27 (by decide) ?_
  refine jic_ge (tgt := 35) hx hb dX10_feed_28 (by decide) (fun cq72_ => ?_) (fun cq72_ => absurd cq72_ (by decide))
  refine lv_iload hx hb dX10_feed_35 (lv_at hl 0 rfl) ?_
  refine lv_bipush (v := 8) hx hb dX10_feed_37 (by decide) ?_
  refine jic_ge (tgt := 46) hx hb dX10_feed_39 (by decide) (fun cq73_ => ?_) (fun cq73_ => absurd cq73_ (by decide))
  refine lv_iload hx hb dX10_feed_46 (lv_at hl 0 rfl) ?_
  refine lv_bipush (v := 12) hx hb dX10_feed_48 (by decide) ?_
  refine jic_ge (tgt := 57) hx hb dX10_feed_50 (by decide) (fun cq74_ => absurd cq74_ (by decide)) (fun cq74_ => ?_)
  refine lv_iload_n hx hb dX10_feed_53 rfl (lv_at hl 5 rfl) ?_
  refine lv_goto (tgt := 71) hx hb dX10_feed_54 (by decide) ?_
  refine lv_istore (lv' := [(7, .int c_), (6, .int 9), (0, .ref h), (1, .int a), (2, .int b), (3, .int c_), (4, .int d), (5, .int e_)]) hx hb dX10_feed_71 hl (by decide) rfl (fun ls hl => ?_)
  refine lv_aload_n hx hb dX10_feed_73 rfl (lv_at hl 2 rfl) ?_
  refine xg hC hK hH flX10_13 hc_h rfl dX10_feed_74 ?_
  refine lv_aload_n hx hb dX10_feed_77 rfl (lv_at hl 2 rfl) ?_
  refine xg hC hK hH flX10_180 hc_h rfl dX10_feed_78 ?_
  refine lv_iload hx hb dX10_feed_81 (lv_at hl 1 rfl) ?_
  refine lv_iadd hx hb dX10_feed_83 ?_
  refine lv_cst (v := 9) (by decide) ?_
  refine lv_iload hx hb dX10_feed_84 (lv_at hl 0 rfl) ?_
  refine lv_bipush (v := 24) hx hb dX10_feed_86 (by decide) ?_
  refine lv_bipush (v := 8) hx hb dX10_feed_88 (by decide) ?_
  refine lv_iload hx hb dX10_feed_90 (lv_at hl 1 rfl) ?_
  refine lv_iconst (v := 3) hx hb dX10_feed_92 (by decide) ?_
  refine lv_iand hx hb dX10_feed_93 ?_
  refine lv_topi (fun zq75_ e_zq75_ => ?_)
  refine lv_imul hx hb dX10_feed_94 ?_
  refine lv_topi (fun zq76_ e_zq76_ => ?_)
  refine lv_isub hx hb dX10_feed_95 ?_
  refine lv_topi (fun zq77_ e_zq77_ => ?_)
  refine lv_ishr hx hb dX10_feed_96 ?_
  refine lv_topi (fun zq78_ e_zq78_ => ?_)
  refine lv_sipush (v := 255) hx hb dX10_feed_97 (by decide) ?_
  refine lv_iand hx hb dX10_feed_100 ?_
  refine lv_topi (fun zq79_ e_zq79_ => ?_)
  refine tist (x := zq79_) hC hK hH ht_mt rfl (iIn (by decide) (by decide)) (iRg _).1 (iRg _).2 dX10_feed_101 (fun Hq_ lcq_ hH => ?_)
  refine lv_iinc (v := 10) (lv' := [(6, .int 10), (7, .int c_), (0, .ref h), (1, .int a), (2, .int b), (3, .int c_), (4, .int d), (5, .int e_)]) hx hb dX10_feed_102 hl (k := 1) rfl (by decide) (by decide) rfl (fun ls hl => ?_)
  refine lv_goto (tgt := 18) hx hb dX10_feed_105 (by decide) ?_
  refine lv_iload hx hb dX10_feed_18 (lv_at hl 0 rfl) ?_
  refine lv_bipush (v := 20) hx hb dX10_feed_20 (by decide) ?_
  refine jic_ge (tgt := 108) hx hb dX10_feed_22 (by decide) (fun cq80_ => absurd cq80_ (by decide)) (fun cq80_ => ?_)
  refine lv_iload hx hb dX10_feed_25 (lv_at hl 0 rfl) ?_
  refine lv_iconst (v := 4) hx hb dX10_feed_27 (by decide) ?_
  refine jic_ge (tgt := 35) hx hb dX10_feed_28 (by decide) (fun cq81_ => ?_) (fun cq81_ => absurd cq81_ (by decide))
  refine lv_iload hx hb dX10_feed_35 (lv_at hl 0 rfl) ?_
  refine lv_bipush (v := 8) hx hb dX10_feed_37 (by decide) ?_
  refine jic_ge (tgt := 46) hx hb dX10_feed_39 (by decide) (fun cq82_ => ?_) (fun cq82_ => absurd cq82_ (by decide))
  refine lv_iload hx hb dX10_feed_46 (lv_at hl 0 rfl) ?_
  refine lv_bipush (v := 12) hx hb dX10_feed_48 (by decide) ?_
  refine jic_ge (tgt := 57) hx hb dX10_feed_50 (by decide) (fun cq83_ => absurd cq83_ (by decide)) (fun cq83_ => ?_)
  refine lv_iload_n hx hb dX10_feed_53 rfl (lv_at hl 5 rfl) ?_
  refine lv_goto (tgt := 71) hx hb dX10_feed_54 (by decide) ?_
  refine lv_istore (lv' := [(7, .int c_), (6, .int 10), (0, .ref h), (1, .int a), (2, .int b), (3, .int c_), (4, .int d), (5, .int e_)]) hx hb dX10_feed_71 hl (by decide) rfl (fun ls hl => ?_)
  refine lv_aload_n hx hb dX10_feed_73 rfl (lv_at hl 2 rfl) ?_
  refine xg hC hK hH flX10_13 hc_h rfl dX10_feed_74 ?_
  refine lv_aload_n hx hb dX10_feed_77 rfl (lv_at hl 2 rfl) ?_
  refine xg hC hK hH flX10_180 hc_h rfl dX10_feed_78 ?_
  refine lv_iload hx hb dX10_feed_81 (lv_at hl 1 rfl) ?_
  refine lv_iadd hx hb dX10_feed_83 ?_
  refine lv_cst (v := 10) (by decide) ?_
  refine lv_iload hx hb dX10_feed_84 (lv_at hl 0 rfl) ?_
  refine lv_bipush (v := 24) hx hb dX10_feed_86 (by decide) ?_
  refine lv_bipush (v := 8) hx hb dX10_feed_88 (by decide) ?_
  refine lv_iload hx hb dX10_feed_90 (lv_at hl 1 rfl) ?_
  refine lv_iconst (v := 3) hx hb dX10_feed_92 (by decide) ?_
  refine lv_iand hx hb dX10_feed_93 ?_
  refine lv_topi (fun zq84_ e_zq84_ => ?_)
  refine lv_imul hx hb dX10_feed_94 ?_
  refine lv_topi (fun zq85_ e_zq85_ => ?_)
  refine lv_isub hx hb dX10_feed_95 ?_
  refine lv_topi (fun zq86_ e_zq86_ => ?_)
  refine lv_ishr hx hb dX10_feed_96 ?_
  refine lv_topi (fun zq87_ e_zq87_ => ?_)
  refine lv_sipush (v := 255) hx hb dX10_feed_97 (by decide) ?_
  refine lv_iand hx hb dX10_feed_100 ?_
  refine lv_topi (fun zq88_ e_zq88_ => ?_)
  refine tist (x := zq88_) hC hK hH ht_mt rfl (iIn (by decide) (by decide)) (iRg _).1 (iRg _).2 dX10_feed_101 (fun Hq_ lcq_ hH => ?_)
  refine lv_iinc (v := 11) (lv' := [(6, .int 11), (7, .int c_), (0, .ref h), (1, .int a), (2, .int b), (3, .int c_), (4, .int d), (5, .int e_)]) hx hb dX10_feed_102 hl (k := 1) rfl (by decide) (by decide) rfl (fun ls hl => ?_)
  refine lv_goto (tgt := 18) hx hb dX10_feed_105 (by decide) ?_
  refine lv_iload hx hb dX10_feed_18 (lv_at hl 0 rfl) ?_
  refine lv_bipush (v := 20) hx hb dX10_feed_20 (by decide) ?_
  refine jic_ge (tgt := 108) hx hb dX10_feed_22 (by decide) (fun cq89_ => absurd cq89_ (by decide)) (fun cq89_ => ?_)
  refine lv_iload hx hb dX10_feed_25 (lv_at hl 0 rfl) ?_
  refine lv_iconst (v := 4) hx hb dX10_feed_27 (by decide) ?_
  refine jic_ge (tgt := 35) hx hb dX10_feed_28 (by decide) (fun cq90_ => ?_) (fun cq90_ => absurd cq90_ (by decide))
  refine lv_iload hx hb dX10_feed_35 (lv_at hl 0 rfl) ?_
  refine lv_bipush (v := 8) hx hb dX10_feed_37 (by decide) ?_
  refine jic_ge (tgt := 46) hx hb dX10_feed_39 (by decide) (fun cq91_ => ?_) (fun cq91_ => absurd cq91_ (by decide))
  refine lv_iload hx hb dX10_feed_46 (lv_at hl 0 rfl) ?_
  refine lv_bipush (v := 12) hx hb dX10_feed_48 (by decide) ?_
  refine jic_ge (tgt := 57) hx hb dX10_feed_50 (by decide) (fun cq92_ => absurd cq92_ (by decide)) (fun cq92_ => ?_)
  refine lv_iload_n hx hb dX10_feed_53 rfl (lv_at hl 5 rfl) ?_
  refine lv_goto (tgt := 71) hx hb dX10_feed_54 (by decide) ?_
  refine lv_istore (lv' := [(7, .int c_), (6, .int 11), (0, .ref h), (1, .int a), (2, .int b), (3, .int c_), (4, .int d), (5, .int e_)]) hx hb dX10_feed_71 hl (by decide) rfl (fun ls hl => ?_)
  refine lv_aload_n hx hb dX10_feed_73 rfl (lv_at hl 2 rfl) ?_
  refine xg hC hK hH flX10_13 hc_h rfl dX10_feed_74 ?_
  refine lv_aload_n hx hb dX10_feed_77 rfl (lv_at hl 2 rfl) ?_
  refine xg hC hK hH flX10_180 hc_h rfl dX10_feed_78 ?_
  refine lv_iload hx hb dX10_feed_81 (lv_at hl 1 rfl) ?_
  refine lv_iadd hx hb dX10_feed_83 ?_
  refine lv_cst (v := 11) (by decide) ?_
  refine lv_iload hx hb dX10_feed_84 (lv_at hl 0 rfl) ?_
  refine lv_bipush (v := 24) hx hb dX10_feed_86 (by decide) ?_
  refine lv_bipush (v := 8) hx hb dX10_feed_88 (by decide) ?_
  refine lv_iload hx hb dX10_feed_90 (lv_at hl 1 rfl) ?_
  refine lv_iconst (v := 3) hx hb dX10_feed_92 (by decide) ?_
  refine lv_iand hx hb dX10_feed_93 ?_
  refine lv_topi (fun zq93_ e_zq93_ => ?_)
  refine lv_imul hx hb dX10_feed_94 ?_
  refine lv_topi (fun zq94_ e_zq94_ => ?_)
  refine lv_isub hx hb dX10_feed_95 ?_
  refine lv_topi (fun zq95_ e_zq95_ => ?_)
  refine lv_ishr hx hb dX10_feed_96 ?_
  refine lv_topi (fun zq96_ e_zq96_ => ?_)
  refine lv_sipush (v := 255) hx hb dX10_feed_97 (by decide) ?_
  refine lv_iand hx hb dX10_feed_100 ?_
  refine lv_topi (fun zq97_ e_zq97_ => ?_)
  refine tist (x := zq97_) hC hK hH ht_mt rfl (iIn (by decide) (by decide)) (iRg _).1 (iRg _).2 dX10_feed_101 (fun Hq_ lcq_ hH => ?_)
  refine lv_iinc (v := 12) (lv' := [(6, .int 12), (7, .int c_), (0, .ref h), (1, .int a), (2, .int b), (3, .int c_), (4, .int d), (5, .int e_)]) hx hb dX10_feed_102 hl (k := 1) rfl (by decide) (by decide) rfl (fun ls hl => ?_)
  refine lv_goto (tgt := 18) hx hb dX10_feed_105 (by decide) ?_
  refine lv_iload hx hb dX10_feed_18 (lv_at hl 0 rfl) ?_
  refine lv_bipush (v := 20) hx hb dX10_feed_20 (by decide) ?_
  refine jic_ge (tgt := 108) hx hb dX10_feed_22 (by decide) (fun cq98_ => absurd cq98_ (by decide)) (fun cq98_ => ?_)
  refine lv_iload hx hb dX10_feed_25 (lv_at hl 0 rfl) ?_
  refine lv_iconst (v := 4) hx hb dX10_feed_27 (by decide) ?_
  refine jic_ge (tgt := 35) hx hb dX10_feed_28 (by decide) (fun cq99_ => ?_) (fun cq99_ => absurd cq99_ (by decide))
  refine lv_iload hx hb dX10_feed_35 (lv_at hl 0 rfl) ?_
  refine lv_bipush (v := 8) hx hb dX10_feed_37 (by decide) ?_
  refine jic_ge (tgt := 46) hx hb dX10_feed_39 (by decide) (fun cq100_ => ?_) (fun cq100_ => absurd cq100_ (by decide))
  refine lv_iload hx hb dX10_feed_46 (lv_at hl 0 rfl) ?_
  refine lv_bipush (v := 12) hx hb dX10_feed_48 (by decide) ?_
  refine jic_ge (tgt := 57) hx hb dX10_feed_50 (by decide) (fun cq101_ => ?_) (fun cq101_ => absurd cq101_ (by decide))
  refine lv_iload hx hb dX10_feed_57 (lv_at hl 0 rfl) ?_
  refine lv_bipush (v := 16) hx hb dX10_feed_59 (by decide) ?_
  refine jic_ge (tgt := 69) hx hb dX10_feed_61 (by decide) (fun cq102_ => absurd cq102_ (by decide)) (fun cq102_ => ?_)
  refine lv_iload hx hb dX10_feed_64 (lv_at hl 6 rfl) ?_
  refine lv_goto (tgt := 71) hx hb dX10_feed_66 (by decide) ?_
  refine lv_istore (lv' := [(7, .int d), (6, .int 12), (0, .ref h), (1, .int a), (2, .int b), (3, .int c_), (4, .int d), (5, .int e_)]) hx hb dX10_feed_71 hl (by decide) rfl (fun ls hl => ?_)
  refine lv_aload_n hx hb dX10_feed_73 rfl (lv_at hl 2 rfl) ?_
  refine xg hC hK hH flX10_13 hc_h rfl dX10_feed_74 ?_
  refine lv_aload_n hx hb dX10_feed_77 rfl (lv_at hl 2 rfl) ?_
  refine xg hC hK hH flX10_180 hc_h rfl dX10_feed_78 ?_
  refine lv_iload hx hb dX10_feed_81 (lv_at hl 1 rfl) ?_
  refine lv_iadd hx hb dX10_feed_83 ?_
  refine lv_cst (v := 12) (by decide) ?_
  refine lv_iload hx hb dX10_feed_84 (lv_at hl 0 rfl) ?_
  refine lv_bipush (v := 24) hx hb dX10_feed_86 (by decide) ?_
  refine lv_bipush (v := 8) hx hb dX10_feed_88 (by decide) ?_
  refine lv_iload hx hb dX10_feed_90 (lv_at hl 1 rfl) ?_
  refine lv_iconst (v := 3) hx hb dX10_feed_92 (by decide) ?_
  refine lv_iand hx hb dX10_feed_93 ?_
  refine lv_topi (fun zq103_ e_zq103_ => ?_)
  refine lv_imul hx hb dX10_feed_94 ?_
  refine lv_topi (fun zq104_ e_zq104_ => ?_)
  refine lv_isub hx hb dX10_feed_95 ?_
  refine lv_topi (fun zq105_ e_zq105_ => ?_)
  refine lv_ishr hx hb dX10_feed_96 ?_
  refine lv_topi (fun zq106_ e_zq106_ => ?_)
  refine lv_sipush (v := 255) hx hb dX10_feed_97 (by decide) ?_
  refine lv_iand hx hb dX10_feed_100 ?_
  refine lv_topi (fun zq107_ e_zq107_ => ?_)
  refine tist (x := zq107_) hC hK hH ht_mt rfl (iIn (by decide) (by decide)) (iRg _).1 (iRg _).2 dX10_feed_101 (fun Hq_ lcq_ hH => ?_)
  refine lv_iinc (v := 13) (lv' := [(6, .int 13), (7, .int d), (0, .ref h), (1, .int a), (2, .int b), (3, .int c_), (4, .int d), (5, .int e_)]) hx hb dX10_feed_102 hl (k := 1) rfl (by decide) (by decide) rfl (fun ls hl => ?_)
  refine lv_goto (tgt := 18) hx hb dX10_feed_105 (by decide) ?_
  refine lv_iload hx hb dX10_feed_18 (lv_at hl 0 rfl) ?_
  refine lv_bipush (v := 20) hx hb dX10_feed_20 (by decide) ?_
  refine jic_ge (tgt := 108) hx hb dX10_feed_22 (by decide) (fun cq108_ => absurd cq108_ (by decide)) (fun cq108_ => ?_)
  refine lv_iload hx hb dX10_feed_25 (lv_at hl 0 rfl) ?_
  refine lv_iconst (v := 4) hx hb dX10_feed_27 (by decide) ?_
  refine jic_ge (tgt := 35) hx hb dX10_feed_28 (by decide) (fun cq109_ => ?_) (fun cq109_ => absurd cq109_ (by decide))
  refine lv_iload hx hb dX10_feed_35 (lv_at hl 0 rfl) ?_
  refine lv_bipush (v := 8) hx hb dX10_feed_37 (by decide) ?_
  refine jic_ge (tgt := 46) hx hb dX10_feed_39 (by decide) (fun cq110_ => ?_) (fun cq110_ => absurd cq110_ (by decide))
  refine lv_iload hx hb dX10_feed_46 (lv_at hl 0 rfl) ?_
  refine lv_bipush (v := 12) hx hb dX10_feed_48 (by decide) ?_
  refine jic_ge (tgt := 57) hx hb dX10_feed_50 (by decide) (fun cq111_ => ?_) (fun cq111_ => absurd cq111_ (by decide))
  refine lv_iload hx hb dX10_feed_57 (lv_at hl 0 rfl) ?_
  refine lv_bipush (v := 16) hx hb dX10_feed_59 (by decide) ?_
  refine jic_ge (tgt := 69) hx hb dX10_feed_61 (by decide) (fun cq112_ => absurd cq112_ (by decide)) (fun cq112_ => ?_)
  refine lv_iload hx hb dX10_feed_64 (lv_at hl 6 rfl) ?_
  refine lv_goto (tgt := 71) hx hb dX10_feed_66 (by decide) ?_
  refine lv_istore (lv' := [(7, .int d), (6, .int 13), (0, .ref h), (1, .int a), (2, .int b), (3, .int c_), (4, .int d), (5, .int e_)]) hx hb dX10_feed_71 hl (by decide) rfl (fun ls hl => ?_)
  refine lv_aload_n hx hb dX10_feed_73 rfl (lv_at hl 2 rfl) ?_
  refine xg hC hK hH flX10_13 hc_h rfl dX10_feed_74 ?_
  refine lv_aload_n hx hb dX10_feed_77 rfl (lv_at hl 2 rfl) ?_
  refine xg hC hK hH flX10_180 hc_h rfl dX10_feed_78 ?_
  refine lv_iload hx hb dX10_feed_81 (lv_at hl 1 rfl) ?_
  refine lv_iadd hx hb dX10_feed_83 ?_
  refine lv_cst (v := 13) (by decide) ?_
  refine lv_iload hx hb dX10_feed_84 (lv_at hl 0 rfl) ?_
  refine lv_bipush (v := 24) hx hb dX10_feed_86 (by decide) ?_
  refine lv_bipush (v := 8) hx hb dX10_feed_88 (by decide) ?_
  refine lv_iload hx hb dX10_feed_90 (lv_at hl 1 rfl) ?_
  refine lv_iconst (v := 3) hx hb dX10_feed_92 (by decide) ?_
  refine lv_iand hx hb dX10_feed_93 ?_
  refine lv_topi (fun zq113_ e_zq113_ => ?_)
  refine lv_imul hx hb dX10_feed_94 ?_
  refine lv_topi (fun zq114_ e_zq114_ => ?_)
  refine lv_isub hx hb dX10_feed_95 ?_
  refine lv_topi (fun zq115_ e_zq115_ => ?_)
  refine lv_ishr hx hb dX10_feed_96 ?_
  refine lv_topi (fun zq116_ e_zq116_ => ?_)
  refine lv_sipush (v := 255) hx hb dX10_feed_97 (by decide) ?_
  refine lv_iand hx hb dX10_feed_100 ?_
  refine lv_topi (fun zq117_ e_zq117_ => ?_)
  refine tist (x := zq117_) hC hK hH ht_mt rfl (iIn (by decide) (by decide)) (iRg _).1 (iRg _).2 dX10_feed_101 (fun Hq_ lcq_ hH => ?_)
  refine lv_iinc (v := 14) (lv' := [(6, .int 14), (7, .int d), (0, .ref h), (1, .int a), (2, .int b), (3, .int c_), (4, .int d), (5, .int e_)]) hx hb dX10_feed_102 hl (k := 1) rfl (by decide) (by decide) rfl (fun ls hl => ?_)
  refine lv_goto (tgt := 18) hx hb dX10_feed_105 (by decide) ?_
  refine lv_iload hx hb dX10_feed_18 (lv_at hl 0 rfl) ?_
  refine lv_bipush (v := 20) hx hb dX10_feed_20 (by decide) ?_
  refine jic_ge (tgt := 108) hx hb dX10_feed_22 (by decide) (fun cq118_ => absurd cq118_ (by decide)) (fun cq118_ => ?_)
  refine lv_iload hx hb dX10_feed_25 (lv_at hl 0 rfl) ?_
  refine lv_iconst (v := 4) hx hb dX10_feed_27 (by decide) ?_
  refine jic_ge (tgt := 35) hx hb dX10_feed_28 (by decide) (fun cq119_ => ?_) (fun cq119_ => absurd cq119_ (by decide))
  refine lv_iload hx hb dX10_feed_35 (lv_at hl 0 rfl) ?_
  refine lv_bipush (v := 8) hx hb dX10_feed_37 (by decide) ?_
  refine jic_ge (tgt := 46) hx hb dX10_feed_39 (by decide) (fun cq120_ => ?_) (fun cq120_ => absurd cq120_ (by decide))
  refine lv_iload hx hb dX10_feed_46 (lv_at hl 0 rfl) ?_
  refine lv_bipush (v := 12) hx hb dX10_feed_48 (by decide) ?_
  refine jic_ge (tgt := 57) hx hb dX10_feed_50 (by decide) (fun cq121_ => ?_) (fun cq121_ => absurd cq121_ (by decide))
  refine lv_iload hx hb dX10_feed_57 (lv_at hl 0 rfl) ?_
  refine lv_bipush (v := 16) hx hb dX10_feed_59 (by decide) ?_
  refine jic_ge (tgt := 69) hx hb dX10_feed_61 (by decide) (fun cq122_ => absurd cq122_ (by decide)) (fun cq122_ => ?_)
  refine lv_iload hx hb dX10_feed_64 (lv_at hl 6 rfl) ?_
  refine lv_goto (tgt := 71) hx hb dX10_feed_66 (by decide) ?_
  refine lv_istore (lv' := [(7, .int d), (6, .int 14), (0, .ref h), (1, .int a), (2, .int b), (3, .int c_), (4, .int d), (5, .int e_)]) hx hb dX10_feed_71 hl (by decide) rfl (fun ls hl => ?_)
  refine lv_aload_n hx hb dX10_feed_73 rfl (lv_at hl 2 rfl) ?_
  refine xg hC hK hH flX10_13 hc_h rfl dX10_feed_74 ?_
  refine lv_aload_n hx hb dX10_feed_77 rfl (lv_at hl 2 rfl) ?_
  refine xg hC hK hH flX10_180 hc_h rfl dX10_feed_78 ?_
  refine lv_iload hx hb dX10_feed_81 (lv_at hl 1 rfl) ?_
  refine lv_iadd hx hb dX10_feed_83 ?_
  refine lv_cst (v := 14) (by decide) ?_
  refine lv_iload hx hb dX10_feed_84 (lv_at hl 0 rfl) ?_
  refine lv_bipush (v := 24) hx hb dX10_feed_86 (by decide) ?_
  refine lv_bipush (v := 8) hx hb dX10_feed_88 (by decide) ?_
  refine lv_iload hx hb dX10_feed_90 (lv_at hl 1 rfl) ?_
  refine lv_iconst (v := 3) hx hb dX10_feed_92 (by decide) ?_
  refine lv_iand hx hb dX10_feed_93 ?_
  refine lv_topi (fun zq123_ e_zq123_ => ?_)
  refine lv_imul hx hb dX10_feed_94 ?_
  refine lv_topi (fun zq124_ e_zq124_ => ?_)
  refine lv_isub hx hb dX10_feed_95 ?_
  refine lv_topi (fun zq125_ e_zq125_ => ?_)
  refine lv_ishr hx hb dX10_feed_96 ?_
  refine lv_topi (fun zq126_ e_zq126_ => ?_)
  refine lv_sipush (v := 255) hx hb dX10_feed_97 (by decide) ?_
  refine lv_iand hx hb dX10_feed_100 ?_
  refine lv_topi (fun zq127_ e_zq127_ => ?_)
  refine tist (x := zq127_) hC hK hH ht_mt rfl (iIn (by decide) (by decide)) (iRg _).1 (iRg _).2 dX10_feed_101 (fun Hq_ lcq_ hH => ?_)
  refine lv_iinc (v := 15) (lv' := [(6, .int 15), (7, .int d), (0, .ref h), (1, .int a), (2, .int b), (3, .int c_), (4, .int d), (5, .int e_)]) hx hb dX10_feed_102 hl (k := 1) rfl (by decide) (by decide) rfl (fun ls hl => ?_)
  refine lv_goto (tgt := 18) hx hb dX10_feed_105 (by decide) ?_
  refine lv_iload hx hb dX10_feed_18 (lv_at hl 0 rfl) ?_
  refine lv_bipush (v := 20) hx hb dX10_feed_20 (by decide) ?_
  refine jic_ge (tgt := 108) hx hb dX10_feed_22 (by decide) (fun cq128_ => absurd cq128_ (by decide)) (fun cq128_ => ?_)
  refine lv_iload hx hb dX10_feed_25 (lv_at hl 0 rfl) ?_
  refine lv_iconst (v := 4) hx hb dX10_feed_27 (by decide) ?_
  refine jic_ge (tgt := 35) hx hb dX10_feed_28 (by decide) (fun cq129_ => ?_) (fun cq129_ => absurd cq129_ (by decide))
  refine lv_iload hx hb dX10_feed_35 (lv_at hl 0 rfl) ?_
  refine lv_bipush (v := 8) hx hb dX10_feed_37 (by decide) ?_
  refine jic_ge (tgt := 46) hx hb dX10_feed_39 (by decide) (fun cq130_ => ?_) (fun cq130_ => absurd cq130_ (by decide))
  refine lv_iload hx hb dX10_feed_46 (lv_at hl 0 rfl) ?_
  refine lv_bipush (v := 12) hx hb dX10_feed_48 (by decide) ?_
  refine jic_ge (tgt := 57) hx hb dX10_feed_50 (by decide) (fun cq131_ => ?_) (fun cq131_ => absurd cq131_ (by decide))
  refine lv_iload hx hb dX10_feed_57 (lv_at hl 0 rfl) ?_
  refine lv_bipush (v := 16) hx hb dX10_feed_59 (by decide) ?_
  refine jic_ge (tgt := 69) hx hb dX10_feed_61 (by decide) (fun cq132_ => absurd cq132_ (by decide)) (fun cq132_ => ?_)
  refine lv_iload hx hb dX10_feed_64 (lv_at hl 6 rfl) ?_
  refine lv_goto (tgt := 71) hx hb dX10_feed_66 (by decide) ?_
  refine lv_istore (lv' := [(7, .int d), (6, .int 15), (0, .ref h), (1, .int a), (2, .int b), (3, .int c_), (4, .int d), (5, .int e_)]) hx hb dX10_feed_71 hl (by decide) rfl (fun ls hl => ?_)
  refine lv_aload_n hx hb dX10_feed_73 rfl (lv_at hl 2 rfl) ?_
  refine xg hC hK hH flX10_13 hc_h rfl dX10_feed_74 ?_
  refine lv_aload_n hx hb dX10_feed_77 rfl (lv_at hl 2 rfl) ?_
  refine xg hC hK hH flX10_180 hc_h rfl dX10_feed_78 ?_
  refine lv_iload hx hb dX10_feed_81 (lv_at hl 1 rfl) ?_
  refine lv_iadd hx hb dX10_feed_83 ?_
  refine lv_cst (v := 15) (by decide) ?_
  refine lv_iload hx hb dX10_feed_84 (lv_at hl 0 rfl) ?_
  refine lv_bipush (v := 24) hx hb dX10_feed_86 (by decide) ?_
  refine lv_bipush (v := 8) hx hb dX10_feed_88 (by decide) ?_
  refine lv_iload hx hb dX10_feed_90 (lv_at hl 1 rfl) ?_
  refine lv_iconst (v := 3) hx hb dX10_feed_92 (by decide) ?_
  refine lv_iand hx hb dX10_feed_93 ?_
  refine lv_topi (fun zq133_ e_zq133_ => ?_)
  refine lv_imul hx hb dX10_feed_94 ?_
  refine lv_topi (fun zq134_ e_zq134_ => ?_)
  refine lv_isub hx hb dX10_feed_95 ?_
  refine lv_topi (fun zq135_ e_zq135_ => ?_)
  refine lv_ishr hx hb dX10_feed_96 ?_
  refine lv_topi (fun zq136_ e_zq136_ => ?_)
  refine lv_sipush (v := 255) hx hb dX10_feed_97 (by decide) ?_
  refine lv_iand hx hb dX10_feed_100 ?_
  refine lv_topi (fun zq137_ e_zq137_ => ?_)
  refine tist (x := zq137_) hC hK hH ht_mt rfl (iIn (by decide) (by decide)) (iRg _).1 (iRg _).2 dX10_feed_101 (fun Hq_ lcq_ hH => ?_)
  refine lv_iinc (v := 16) (lv' := [(6, .int 16), (7, .int d), (0, .ref h), (1, .int a), (2, .int b), (3, .int c_), (4, .int d), (5, .int e_)]) hx hb dX10_feed_102 hl (k := 1) rfl (by decide) (by decide) rfl (fun ls hl => ?_)
  refine lv_goto (tgt := 18) hx hb dX10_feed_105 (by decide) ?_
  refine lv_iload hx hb dX10_feed_18 (lv_at hl 0 rfl) ?_
  refine lv_bipush (v := 20) hx hb dX10_feed_20 (by decide) ?_
  refine jic_ge (tgt := 108) hx hb dX10_feed_22 (by decide) (fun cq138_ => absurd cq138_ (by decide)) (fun cq138_ => ?_)
  refine lv_iload hx hb dX10_feed_25 (lv_at hl 0 rfl) ?_
  refine lv_iconst (v := 4) hx hb dX10_feed_27 (by decide) ?_
  refine jic_ge (tgt := 35) hx hb dX10_feed_28 (by decide) (fun cq139_ => ?_) (fun cq139_ => absurd cq139_ (by decide))
  refine lv_iload hx hb dX10_feed_35 (lv_at hl 0 rfl) ?_
  refine lv_bipush (v := 8) hx hb dX10_feed_37 (by decide) ?_
  refine jic_ge (tgt := 46) hx hb dX10_feed_39 (by decide) (fun cq140_ => ?_) (fun cq140_ => absurd cq140_ (by decide))
  refine lv_iload hx hb dX10_feed_46 (lv_at hl 0 rfl) ?_
  refine lv_bipush (v := 12) hx hb dX10_feed_48 (by decide) ?_
  refine jic_ge (tgt := 57) hx hb dX10_feed_50 (by decide) (fun cq141_ => ?_) (fun cq141_ => absurd cq141_ (by decide))
  refine lv_iload hx hb dX10_feed_57 (lv_at hl 0 rfl) ?_
  refine lv_bipush (v := 16) hx hb dX10_feed_59 (by decide) ?_
  refine jic_ge (tgt := 69) hx hb dX10_feed_61 (by decide) (fun cq142_ => ?_) (fun cq142_ => absurd cq142_ (by decide))
  refine lv_iload hx hb dX10_feed_69 (lv_at hl 7 rfl) ?_
  refine lv_istore (lv' := [(7, .int e_), (6, .int 16), (0, .ref h), (1, .int a), (2, .int b), (3, .int c_), (4, .int d), (5, .int e_)]) hx hb dX10_feed_71 hl (by decide) rfl (fun ls hl => ?_)
  refine lv_aload_n hx hb dX10_feed_73 rfl (lv_at hl 2 rfl) ?_
  refine xg hC hK hH flX10_13 hc_h rfl dX10_feed_74 ?_
  refine lv_aload_n hx hb dX10_feed_77 rfl (lv_at hl 2 rfl) ?_
  refine xg hC hK hH flX10_180 hc_h rfl dX10_feed_78 ?_
  refine lv_iload hx hb dX10_feed_81 (lv_at hl 1 rfl) ?_
  refine lv_iadd hx hb dX10_feed_83 ?_
  refine lv_cst (v := 16) (by decide) ?_
  refine lv_iload hx hb dX10_feed_84 (lv_at hl 0 rfl) ?_
  refine lv_bipush (v := 24) hx hb dX10_feed_86 (by decide) ?_
  refine lv_bipush (v := 8) hx hb dX10_feed_88 (by decide) ?_
  refine lv_iload hx hb dX10_feed_90 (lv_at hl 1 rfl) ?_
  refine lv_iconst (v := 3) hx hb dX10_feed_92 (by decide) ?_
  refine lv_iand hx hb dX10_feed_93 ?_
  refine lv_topi (fun zq143_ e_zq143_ => ?_)
  refine lv_imul hx hb dX10_feed_94 ?_
  refine lv_topi (fun zq144_ e_zq144_ => ?_)
  refine lv_isub hx hb dX10_feed_95 ?_
  refine lv_topi (fun zq145_ e_zq145_ => ?_)
  refine lv_ishr hx hb dX10_feed_96 ?_
  refine lv_topi (fun zq146_ e_zq146_ => ?_)
  refine lv_sipush (v := 255) hx hb dX10_feed_97 (by decide) ?_
  refine lv_iand hx hb dX10_feed_100 ?_
  refine lv_topi (fun zq147_ e_zq147_ => ?_)
  refine tist (x := zq147_) hC hK hH ht_mt rfl (iIn (by decide) (by decide)) (iRg _).1 (iRg _).2 dX10_feed_101 (fun Hq_ lcq_ hH => ?_)
  refine lv_iinc (v := 17) (lv' := [(6, .int 17), (7, .int e_), (0, .ref h), (1, .int a), (2, .int b), (3, .int c_), (4, .int d), (5, .int e_)]) hx hb dX10_feed_102 hl (k := 1) rfl (by decide) (by decide) rfl (fun ls hl => ?_)
  refine lv_goto (tgt := 18) hx hb dX10_feed_105 (by decide) ?_
  refine lv_iload hx hb dX10_feed_18 (lv_at hl 0 rfl) ?_
  refine lv_bipush (v := 20) hx hb dX10_feed_20 (by decide) ?_
  refine jic_ge (tgt := 108) hx hb dX10_feed_22 (by decide) (fun cq148_ => absurd cq148_ (by decide)) (fun cq148_ => ?_)
  refine lv_iload hx hb dX10_feed_25 (lv_at hl 0 rfl) ?_
  refine lv_iconst (v := 4) hx hb dX10_feed_27 (by decide) ?_
  refine jic_ge (tgt := 35) hx hb dX10_feed_28 (by decide) (fun cq149_ => ?_) (fun cq149_ => absurd cq149_ (by decide))
  refine lv_iload hx hb dX10_feed_35 (lv_at hl 0 rfl) ?_
  refine lv_bipush (v := 8) hx hb dX10_feed_37 (by decide) ?_
  refine jic_ge (tgt := 46) hx hb dX10_feed_39 (by decide) (fun cq150_ => ?_) (fun cq150_ => absurd cq150_ (by decide))
  refine lv_iload hx hb dX10_feed_46 (lv_at hl 0 rfl) ?_
  refine lv_bipush (v := 12) hx hb dX10_feed_48 (by decide) ?_
  refine jic_ge (tgt := 57) hx hb dX10_feed_50 (by decide) (fun cq151_ => ?_) (fun cq151_ => absurd cq151_ (by decide))
  refine lv_iload hx hb dX10_feed_57 (lv_at hl 0 rfl) ?_
  refine lv_bipush (v := 16) hx hb dX10_feed_59 (by decide) ?_
  refine jic_ge (tgt := 69) hx hb dX10_feed_61 (by decide) (fun cq152_ => ?_) (fun cq152_ => absurd cq152_ (by decide))
  refine lv_iload hx hb dX10_feed_69 (lv_at hl 7 rfl) ?_
  refine lv_istore (lv' := [(7, .int e_), (6, .int 17), (0, .ref h), (1, .int a), (2, .int b), (3, .int c_), (4, .int d), (5, .int e_)]) hx hb dX10_feed_71 hl (by decide) rfl (fun ls hl => ?_)
  refine lv_aload_n hx hb dX10_feed_73 rfl (lv_at hl 2 rfl) ?_
  refine xg hC hK hH flX10_13 hc_h rfl dX10_feed_74 ?_
  refine lv_aload_n hx hb dX10_feed_77 rfl (lv_at hl 2 rfl) ?_
  refine xg hC hK hH flX10_180 hc_h rfl dX10_feed_78 ?_
  refine lv_iload hx hb dX10_feed_81 (lv_at hl 1 rfl) ?_
  refine lv_iadd hx hb dX10_feed_83 ?_
  refine lv_cst (v := 17) (by decide) ?_
  refine lv_iload hx hb dX10_feed_84 (lv_at hl 0 rfl) ?_
  refine lv_bipush (v := 24) hx hb dX10_feed_86 (by decide) ?_
  refine lv_bipush (v := 8) hx hb dX10_feed_88 (by decide) ?_
  refine lv_iload hx hb dX10_feed_90 (lv_at hl 1 rfl) ?_
  refine lv_iconst (v := 3) hx hb dX10_feed_92 (by decide) ?_
  refine lv_iand hx hb dX10_feed_93 ?_
  refine lv_topi (fun zq153_ e_zq153_ => ?_)
  refine lv_imul hx hb dX10_feed_94 ?_
  refine lv_topi (fun zq154_ e_zq154_ => ?_)
  refine lv_isub hx hb dX10_feed_95 ?_
  refine lv_topi (fun zq155_ e_zq155_ => ?_)
  refine lv_ishr hx hb dX10_feed_96 ?_
  refine lv_topi (fun zq156_ e_zq156_ => ?_)
  refine lv_sipush (v := 255) hx hb dX10_feed_97 (by decide) ?_
  refine lv_iand hx hb dX10_feed_100 ?_
  refine lv_topi (fun zq157_ e_zq157_ => ?_)
  refine tist (x := zq157_) hC hK hH ht_mt rfl (iIn (by decide) (by decide)) (iRg _).1 (iRg _).2 dX10_feed_101 (fun Hq_ lcq_ hH => ?_)
  refine lv_iinc (v := 18) (lv' := [(6, .int 18), (7, .int e_), (0, .ref h), (1, .int a), (2, .int b), (3, .int c_), (4, .int d), (5, .int e_)]) hx hb dX10_feed_102 hl (k := 1) rfl (by decide) (by decide) rfl (fun ls hl => ?_)
  refine lv_goto (tgt := 18) hx hb dX10_feed_105 (by decide) ?_
  refine lv_iload hx hb dX10_feed_18 (lv_at hl 0 rfl) ?_
  refine lv_bipush (v := 20) hx hb dX10_feed_20 (by decide) ?_
  refine jic_ge (tgt := 108) hx hb dX10_feed_22 (by decide) (fun cq158_ => absurd cq158_ (by decide)) (fun cq158_ => ?_)
  refine lv_iload hx hb dX10_feed_25 (lv_at hl 0 rfl) ?_
  refine lv_iconst (v := 4) hx hb dX10_feed_27 (by decide) ?_
  refine jic_ge (tgt := 35) hx hb dX10_feed_28 (by decide) (fun cq159_ => ?_) (fun cq159_ => absurd cq159_ (by decide))
  refine lv_iload hx hb dX10_feed_35 (lv_at hl 0 rfl) ?_
  refine lv_bipush (v := 8) hx hb dX10_feed_37 (by decide) ?_
  refine jic_ge (tgt := 46) hx hb dX10_feed_39 (by decide) (fun cq160_ => ?_) (fun cq160_ => absurd cq160_ (by decide))
  refine lv_iload hx hb dX10_feed_46 (lv_at hl 0 rfl) ?_
  refine lv_bipush (v := 12) hx hb dX10_feed_48 (by decide) ?_
  refine jic_ge (tgt := 57) hx hb dX10_feed_50 (by decide) (fun cq161_ => ?_) (fun cq161_ => absurd cq161_ (by decide))
  refine lv_iload hx hb dX10_feed_57 (lv_at hl 0 rfl) ?_
  refine lv_bipush (v := 16) hx hb dX10_feed_59 (by decide) ?_
  refine jic_ge (tgt := 69) hx hb dX10_feed_61 (by decide) (fun cq162_ => ?_) (fun cq162_ => absurd cq162_ (by decide))
  refine lv_iload hx hb dX10_feed_69 (lv_at hl 7 rfl) ?_
  refine lv_istore (lv' := [(7, .int e_), (6, .int 18), (0, .ref h), (1, .int a), (2, .int b), (3, .int c_), (4, .int d), (5, .int e_)]) hx hb dX10_feed_71 hl (by decide) rfl (fun ls hl => ?_)
  refine lv_aload_n hx hb dX10_feed_73 rfl (lv_at hl 2 rfl) ?_
  refine xg hC hK hH flX10_13 hc_h rfl dX10_feed_74 ?_
  refine lv_aload_n hx hb dX10_feed_77 rfl (lv_at hl 2 rfl) ?_
  refine xg hC hK hH flX10_180 hc_h rfl dX10_feed_78 ?_
  refine lv_iload hx hb dX10_feed_81 (lv_at hl 1 rfl) ?_
  refine lv_iadd hx hb dX10_feed_83 ?_
  refine lv_cst (v := 18) (by decide) ?_
  refine lv_iload hx hb dX10_feed_84 (lv_at hl 0 rfl) ?_
  refine lv_bipush (v := 24) hx hb dX10_feed_86 (by decide) ?_
  refine lv_bipush (v := 8) hx hb dX10_feed_88 (by decide) ?_
  refine lv_iload hx hb dX10_feed_90 (lv_at hl 1 rfl) ?_
  refine lv_iconst (v := 3) hx hb dX10_feed_92 (by decide) ?_
  refine lv_iand hx hb dX10_feed_93 ?_
  refine lv_topi (fun zq163_ e_zq163_ => ?_)
  refine lv_imul hx hb dX10_feed_94 ?_
  refine lv_topi (fun zq164_ e_zq164_ => ?_)
  refine lv_isub hx hb dX10_feed_95 ?_
  refine lv_topi (fun zq165_ e_zq165_ => ?_)
  refine lv_ishr hx hb dX10_feed_96 ?_
  refine lv_topi (fun zq166_ e_zq166_ => ?_)
  refine lv_sipush (v := 255) hx hb dX10_feed_97 (by decide) ?_
  refine lv_iand hx hb dX10_feed_100 ?_
  refine lv_topi (fun zq167_ e_zq167_ => ?_)
  refine tist (x := zq167_) hC hK hH ht_mt rfl (iIn (by decide) (by decide)) (iRg _).1 (iRg _).2 dX10_feed_101 (fun Hq_ lcq_ hH => ?_)
  refine lv_iinc (v := 19) (lv' := [(6, .int 19), (7, .int e_), (0, .ref h), (1, .int a), (2, .int b), (3, .int c_), (4, .int d), (5, .int e_)]) hx hb dX10_feed_102 hl (k := 1) rfl (by decide) (by decide) rfl (fun ls hl => ?_)
  refine lv_goto (tgt := 18) hx hb dX10_feed_105 (by decide) ?_
  refine lv_iload hx hb dX10_feed_18 (lv_at hl 0 rfl) ?_
  refine lv_bipush (v := 20) hx hb dX10_feed_20 (by decide) ?_
  refine jic_ge (tgt := 108) hx hb dX10_feed_22 (by decide) (fun cq168_ => absurd cq168_ (by decide)) (fun cq168_ => ?_)
  refine lv_iload hx hb dX10_feed_25 (lv_at hl 0 rfl) ?_
  refine lv_iconst (v := 4) hx hb dX10_feed_27 (by decide) ?_
  refine jic_ge (tgt := 35) hx hb dX10_feed_28 (by decide) (fun cq169_ => ?_) (fun cq169_ => absurd cq169_ (by decide))
  refine lv_iload hx hb dX10_feed_35 (lv_at hl 0 rfl) ?_
  refine lv_bipush (v := 8) hx hb dX10_feed_37 (by decide) ?_
  refine jic_ge (tgt := 46) hx hb dX10_feed_39 (by decide) (fun cq170_ => ?_) (fun cq170_ => absurd cq170_ (by decide))
  refine lv_iload hx hb dX10_feed_46 (lv_at hl 0 rfl) ?_
  refine lv_bipush (v := 12) hx hb dX10_feed_48 (by decide) ?_
  refine jic_ge (tgt := 57) hx hb dX10_feed_50 (by decide) (fun cq171_ => ?_) (fun cq171_ => absurd cq171_ (by decide))
  refine lv_iload hx hb dX10_feed_57 (lv_at hl 0 rfl) ?_
  refine lv_bipush (v := 16) hx hb dX10_feed_59 (by decide) ?_
  refine jic_ge (tgt := 69) hx hb dX10_feed_61 (by decide) (fun cq172_ => ?_) (fun cq172_ => absurd cq172_ (by decide))
  refine lv_iload hx hb dX10_feed_69 (lv_at hl 7 rfl) ?_
  refine lv_istore (lv' := [(7, .int e_), (6, .int 19), (0, .ref h), (1, .int a), (2, .int b), (3, .int c_), (4, .int d), (5, .int e_)]) hx hb dX10_feed_71 hl (by decide) rfl (fun ls hl => ?_)
  refine lv_aload_n hx hb dX10_feed_73 rfl (lv_at hl 2 rfl) ?_
  refine xg hC hK hH flX10_13 hc_h rfl dX10_feed_74 ?_
  refine lv_aload_n hx hb dX10_feed_77 rfl (lv_at hl 2 rfl) ?_
  refine xg hC hK hH flX10_180 hc_h rfl dX10_feed_78 ?_
  refine lv_iload hx hb dX10_feed_81 (lv_at hl 1 rfl) ?_
  refine lv_iadd hx hb dX10_feed_83 ?_
  refine lv_cst (v := 19) (by decide) ?_
  refine lv_iload hx hb dX10_feed_84 (lv_at hl 0 rfl) ?_
  refine lv_bipush (v := 24) hx hb dX10_feed_86 (by decide) ?_
  refine lv_bipush (v := 8) hx hb dX10_feed_88 (by decide) ?_
  refine lv_iload hx hb dX10_feed_90 (lv_at hl 1 rfl) ?_
  refine lv_iconst (v := 3) hx hb dX10_feed_92 (by decide) ?_
  refine lv_iand hx hb dX10_feed_93 ?_
  refine lv_topi (fun zq173_ e_zq173_ => ?_)
  refine lv_imul hx hb dX10_feed_94 ?_
  refine lv_topi (fun zq174_ e_zq174_ => ?_)
  refine lv_isub hx hb dX10_feed_95 ?_
  refine lv_topi (fun zq175_ e_zq175_ => ?_)
  refine lv_ishr hx hb dX10_feed_96 ?_
  refine lv_topi (fun zq176_ e_zq176_ => ?_)
  refine lv_sipush (v := 255) hx hb dX10_feed_97 (by decide) ?_
  refine lv_iand hx hb dX10_feed_100 ?_
  refine lv_topi (fun zq177_ e_zq177_ => ?_)
  refine tist (x := zq177_) hC hK hH ht_mt rfl (iIn (by decide) (by decide)) (iRg _).1 (iRg _).2 dX10_feed_101 (fun Hq_ lcq_ hH => ?_)
  refine lv_iinc (v := 20) (lv' := [(6, .int 20), (7, .int e_), (0, .ref h), (1, .int a), (2, .int b), (3, .int c_), (4, .int d), (5, .int e_)]) hx hb dX10_feed_102 hl (k := 1) rfl (by decide) (by decide) rfl (fun ls hl => ?_)
  refine lv_goto (tgt := 18) hx hb dX10_feed_105 (by decide) ?_
  refine lv_iload hx hb dX10_feed_18 (lv_at hl 0 rfl) ?_
  refine lv_bipush (v := 20) hx hb dX10_feed_20 (by decide) ?_
  refine jic_ge (tgt := 108) hx hb dX10_feed_22 (by decide) (fun cq178_ => ?_) (fun cq178_ => absurd cq178_ (by decide))
  refine lv_aload_n hx hb dX10_feed_108 rfl (lv_at hl 2 rfl) ?_
  refine lv_dup hx hb dX10_feed_109 rfl ?_
  refine xg hC hK hH flX10_180 hc_h rfl dX10_feed_110 ?_
  refine lv_bipush (v := 20) hx hb dX10_feed_113 (by decide) ?_
  refine lv_iadd hx hb dX10_feed_115 ?_
  refine lv_cst (v := 20) (by decide) ?_
  refine yp (v := .int 20) hC hK hH flX10_180 hc_h rfl rfl (Nat.le_of_ble_eq_true rfl) dX10_feed_116 (fun Hq_ lcq_ Mq179_ hc_h hfr hH => ?_)
  have hc_h : Mq179_ h = some (.inr (8, [.ref al, .ref mt, .ref ii, .int 20, .int (-1), .ref pa, .int 0, .int 0, .int 0, .int 0, .int 0, .long 0, .int 0, .ref li])) := hc_h
  have hF : ∀ q, q ≠ h → Mq179_ q = M q := fun q h0 => (hfr q h0).trans (hF q h0)
  refine lv_aload_n hx hb dX10_feed_119 rfl (lv_at hl 2 rfl) ?_
  refine xg hC hK hH flX10_180 hc_h rfl dX10_feed_120 ?_
  subst e_zq175_
  subst e_zq174_
  subst e_zq165_
  subst e_zq164_
  subst e_zq155_
  subst e_zq154_
  subst e_zq145_
  subst e_zq144_
  subst e_zq135_
  subst e_zq134_
  subst e_zq125_
  subst e_zq124_
  subst e_zq115_
  subst e_zq114_
  subst e_zq105_
  subst e_zq104_
  subst e_zq95_
  subst e_zq94_
  subst e_zq86_
  subst e_zq85_
  subst e_zq77_
  subst e_zq76_
  subst e_zq68_
  subst e_zq67_
  subst e_zq59_
  subst e_zq58_
  subst e_zq51_
  subst e_zq50_
  subst e_zq43_
  subst e_zq42_
  subst e_zq35_
  subst e_zq34_
  subst e_zq27_
  subst e_zq26_
  subst e_zq20_
  subst e_zq19_
  subst e_zq13_
  subst e_zq12_
  subst e_zq6_
  subst e_zq5_
  exact ret_i hC hr hlk hK hH (⟨rfl, rfl, hF⟩) (Nat.le_of_ble_eq_true rfl) (Nat.le_of_ble_eq_true rfl) dX10_feed_123
set_option maxHeartbeats 4000000 in
set_option maxRecDepth 100000 in
theorem c_X10_draws {l : Launch} {D : va_G} {kA : Nat → ClassId} {M : mM} {T : mT} {sz : Nat} {h al mt ii pa li : Nat} {f : Nat → Int32} {dr de pe op su dy : Int32} (hc_h : M h = some (.inr (8, [.ref al, .ref mt, .ref ii, .int 0, .int (-1), .ref pa, .int 0, .int 0, .int 0, .int 0, .int 0, .long 0, .int 0, .ref li]))) (hc_al : M al = some (.inl (kA 0, 7506, .inl f))) (hfi : ∀ j, j < 1140 → f j = mIni j) : mCi l yX10_draws cX10_draws 9 (some .int) 2 0 0 D kA M T sz [.ref h, .int dr, .int de, .int pe, .int op, .int su, .int dy] (fun r u => ∃ g : Nat → Int32, ((0 ≤ dr.toInt ∧ dr.toInt ≤ 7 ∧ 0 ≤ de.toInt ∧ de.toInt ≤ 7 ∧ 0 ≤ pe.toInt ∧ pe.toInt ≤ 7 ∧ 1 ≤ su.toInt ∧ su.toInt ≤ 999 ∧ 0 ≤ dy.toInt ∧ dy.toInt ≤ 99) → g 1 = 1) ∧ (((0 ≤ dr.toInt ∧ dr.toInt ≤ 7 ∧ 0 ≤ de.toInt ∧ de.toInt ≤ 7 ∧ 0 ≤ pe.toInt ∧ pe.toInt ≤ 7 ∧ 1 ≤ su.toInt ∧ su.toInt ≤ 999 ∧ 0 ≤ dy.toInt ∧ dy.toInt ≤ 99) ∧ r = 0 ∧ u.1 al = some (.inl (kA 0, 7506, .inl g))) ∨ ((¬ (0 ≤ dr.toInt ∧ dr.toInt ≤ 7 ∧ 0 ≤ de.toInt ∧ de.toInt ≤ 7 ∧ 0 ≤ pe.toInt ∧ pe.toInt ≤ 7 ∧ 1 ≤ su.toInt ∧ su.toInt ≤ 999 ∧ 0 ≤ dy.toInt ∧ dy.toInt ≤ 99)) ∧ r = 30 ∧ u.1 al = some (.inl (kA 0, 7506, .inl g)))) ∧ u.2 = T ∧ (∀ q, q ≠ al → u.1 q = M q)) := by
  unfold mCi
  refine start_W (by decide) (Nat.le_of_ble_eq_true rfl) ?_
  intro p e s m below meth c ls hC hr hlk hnm hK hH hsz hl
  have hx := hC.1
  have hb := hC.2.1
  have hl : lv_has ls 9 [(0, .ref h), (1, .int dr), (2, .int de), (3, .int pe), (4, .int op), (5, .int su), (6, .int dy)] := hl
  have hF : ∀ q, q ≠ al → M q = M q := fun q _ => rfl
  have n_h_al : h ≠ al := neM hc_h hc_al (by simp)
  have n_al_h : al ≠ h := neM hc_al hc_h (by simp)
  refine lv_iload_n hx hb dX10_draws_0 rfl (lv_at hl 1 rfl) ?_
  refine goI hK hH (runS (As := [.int dr]) (rest := []) hC hK hH (c_X10_isPerson) mlX10_100 ⟨⟨Nat.le_of_ble_eq_true rfl, Nat.le_of_ble_eq_true rfl⟩, Nat.le_of_ble_eq_true rfl, Nat.le_of_ble_eq_true rfl⟩ rfl hl.1 rfl (Nat.le_of_ble_eq_true rfl) dX10_draws_1) (fun rq3_ Mq1_ Tq2_ Hq_ lcq_ hP hz hH => ?_)
  try dsimp only at hP
  obtain ⟨(⟨cq4_, rfl⟩ | ⟨cq5_, rfl⟩), eT, eM⟩ := hP
  · skip
    have eT := eT.symm; subst eT
    have eM := eM.symm; subst eM
    have cq4_ : 0 ≤ dr.toInt ∧ dr.toInt ≤ 7 := cq4_
    refine jif_eq (tgt := 54) hx hb dX10_draws_4 (by decide) (fun cq6_ => absurd cq6_ (by decide)) (fun cq6_ => ?_)
    refine lv_iload_n hx hb dX10_draws_7 rfl (lv_at hl 2 rfl) ?_
    refine goI hK hH (runS (As := [.int de]) (rest := []) hC hK hH (c_X10_isPerson) mlX10_100 ⟨⟨Nat.le_of_ble_eq_true rfl, Nat.le_of_ble_eq_true rfl⟩, Nat.le_of_ble_eq_true rfl, Nat.le_of_ble_eq_true rfl⟩ rfl hl.1 rfl (Nat.le_of_ble_eq_true rfl) dX10_draws_8) (fun rq9_ Mq7_ Tq8_ Hq_ lcq_ hP hz hH => ?_)
    try dsimp only at hP
    obtain ⟨(⟨cq10_, rfl⟩ | ⟨cq11_, rfl⟩), eT, eM⟩ := hP
    · skip
      have eT := eT.symm; subst eT
      have eM := eM.symm; subst eM
      have cq10_ : 0 ≤ de.toInt ∧ de.toInt ≤ 7 := cq10_
      refine jif_eq (tgt := 54) hx hb dX10_draws_11 (by decide) (fun cq12_ => absurd cq12_ (by decide)) (fun cq12_ => ?_)
      refine lv_iload_n hx hb dX10_draws_14 rfl (lv_at hl 3 rfl) ?_
      refine goI hK hH (runS (As := [.int pe]) (rest := []) hC hK hH (c_X10_isPerson) mlX10_100 ⟨⟨Nat.le_of_ble_eq_true rfl, Nat.le_of_ble_eq_true rfl⟩, Nat.le_of_ble_eq_true rfl, Nat.le_of_ble_eq_true rfl⟩ rfl hl.1 rfl (Nat.le_of_ble_eq_true rfl) dX10_draws_15) (fun rq15_ Mq13_ Tq14_ Hq_ lcq_ hP hz hH => ?_)
      try dsimp only at hP
      obtain ⟨(⟨cq16_, rfl⟩ | ⟨cq17_, rfl⟩), eT, eM⟩ := hP
      · skip
        have eT := eT.symm; subst eT
        have eM := eM.symm; subst eM
        have cq16_ : 0 ≤ pe.toInt ∧ pe.toInt ≤ 7 := cq16_
        refine jif_eq (tgt := 54) hx hb dX10_draws_18 (by decide) (fun cq18_ => absurd cq18_ (by decide)) (fun cq18_ => ?_)
        refine lv_iload hx hb dX10_draws_21 (lv_at hl 5 rfl) ?_
        refine lv_iconst (v := 1) hx hb dX10_draws_23 (by decide) ?_
        refine lv_sipush (v := 999) hx hb dX10_draws_24 (by decide) ?_
        refine goI hK hH (runS (As := [.int su, .int 1, .int 999]) (rest := []) hC hK hH (c_X10_isIn) mlX10_33 ⟨⟨Nat.le_of_ble_eq_true rfl, Nat.le_of_ble_eq_true rfl⟩, Nat.le_of_ble_eq_true rfl, Nat.le_of_ble_eq_true rfl⟩ rfl hl.1 rfl (Nat.le_of_ble_eq_true rfl) dX10_draws_27) (fun rq21_ Mq19_ Tq20_ Hq_ lcq_ hP hz hH => ?_)
        try dsimp only at hP
        obtain ⟨(⟨cq22_, rfl⟩ | ⟨cq23_, rfl⟩), eT, eM⟩ := hP
        · skip
          have eT := eT.symm; subst eT
          have eM := eM.symm; subst eM
          have cq22_ : (1 : Int) ≤ su.toInt ∧ su.toInt ≤ (999 : Int) := cq22_
          refine jif_eq (tgt := 54) hx hb dX10_draws_30 (by decide) (fun cq24_ => absurd cq24_ (by decide)) (fun cq24_ => ?_)
          refine lv_iload hx hb dX10_draws_33 (lv_at hl 6 rfl) ?_
          refine lv_iconst (v := 0) hx hb dX10_draws_35 (by decide) ?_
          refine lv_bipush (v := 99) hx hb dX10_draws_36 (by decide) ?_
          refine goI hK hH (runS (As := [.int dy, .int 0, .int 99]) (rest := []) hC hK hH (c_X10_isIn) mlX10_33 ⟨⟨Nat.le_of_ble_eq_true rfl, Nat.le_of_ble_eq_true rfl⟩, Nat.le_of_ble_eq_true rfl, Nat.le_of_ble_eq_true rfl⟩ rfl hl.1 rfl (Nat.le_of_ble_eq_true rfl) dX10_draws_38) (fun rq27_ Mq25_ Tq26_ Hq_ lcq_ hP hz hH => ?_)
          try dsimp only at hP
          obtain ⟨(⟨cq28_, rfl⟩ | ⟨cq29_, rfl⟩), eT, eM⟩ := hP
          · skip
            have eT := eT.symm; subst eT
            have eM := eM.symm; subst eM
            have cq28_ : (0 : Int) ≤ dy.toInt ∧ dy.toInt ≤ (99 : Int) := cq28_
            refine jif_eq (tgt := 54) hx hb dX10_draws_41 (by decide) (fun cq30_ => absurd cq30_ (by decide)) (fun cq30_ => ?_)
            refine lv_aload_n hx hb dX10_draws_44 rfl (lv_at hl 0 rfl) ?_
            refine xg hC hK hH flX10_7 hc_h rfl dX10_draws_45 ?_
            refine lv_iconst (v := 1) hx hb dX10_draws_48 (by decide) ?_
            refine xild hC hK hH hc_al (iIn (by decide) (by decide)) dX10_draws_49 ?_
            refine lv_cst (v := 0) ((hfi _ (by decide)).trans (by decide)) ?_
            refine lv_iconst (v := 4) hx hb dX10_draws_50 (by decide) ?_
            refine jic_ne (tgt := 57) hx hb dX10_draws_51 (by decide) (fun cq31_ => ?_) (fun cq31_ => absurd cq31_ (by decide))
            refine lv_iconst (v := 0) hx hb dX10_draws_57 (by decide) ?_
            refine lv_aload_n hx hb dX10_draws_58 rfl (lv_at hl 0 rfl) ?_
            refine xg hC hK hH flX10_7 hc_h rfl dX10_draws_59 ?_
            refine lv_iconst (v := 1) hx hb dX10_draws_62 (by decide) ?_
            refine xild hC hK hH hc_al (iIn (by decide) (by decide)) dX10_draws_63 ?_
            refine lv_cst (v := 0) ((hfi _ (by decide)).trans (by decide)) ?_
            refine goI hK hH (runS (As := [.int 0, .int 0]) (rest := []) hC hK hH (c_X10_at) mlX10_109 ⟨⟨Nat.le_of_ble_eq_true rfl, Nat.le_of_ble_eq_true rfl⟩, Nat.le_of_ble_eq_true rfl, Nat.le_of_ble_eq_true rfl⟩ rfl hl.1 rfl (Nat.le_of_ble_eq_true rfl) dX10_draws_64) (fun rq34_ Mq32_ Tq33_ Hq_ lcq_ hP hz hH => ?_)
            try dsimp only at hP
            obtain ⟨(rfl), eT, eM⟩ := hP
            have eT := eT.symm; subst eT
            have eM := eM.symm; subst eM
            refine lv_istore (lv' := [(7, .int 20), (0, .ref h), (1, .int dr), (2, .int de), (3, .int pe), (4, .int op), (5, .int su), (6, .int dy)]) hx hb dX10_draws_67 hl (by decide) rfl (fun ls hl => ?_)
            refine lv_iconst (v := 0) hx hb dX10_draws_69 (by decide) ?_
            refine lv_istore (lv' := [(8, .int 0), (7, .int 20), (0, .ref h), (1, .int dr), (2, .int de), (3, .int pe), (4, .int op), (5, .int su), (6, .int dy)]) hx hb dX10_draws_70 hl (by decide) rfl (fun ls hl => ?_)
            have loop : ∀ (n : Nat) (iq36_ : Int32) (Hq_ : Heap) (lcq_ : List Loc) (Mq37_ : mM) (ls : Array Slot) (fq35_ : Nat → Int32), iq36_.toInt + (n : Int) = 280 → 0 ≤ iq36_.toInt → (∀ j, j < 20 → fq35_ j = f j) → Mq37_ h = some (.inr (8, [.ref al, .ref mt, .ref ii, .int 0, .int (-1), .ref pa, .int 0, .int 0, .int 0, .int 0, .int 0, .long 0, .int 0, .ref li])) → Mq37_ al = some (.inl (kA 0, 7506, .inl fq35_)) → (∀ q, q ≠ al → Mq37_ q = M q) → mS D kA Mq37_ T (mA M T sz) s.heap Hq_ lcq_ → lv_has ls 9 [(8, .int iq36_), (7, .int 20), (0, .ref h), (1, .int dr), (2, .int de), (3, .int pe), (4, .int op), (5, .int su), (6, .int dy)] → W p l e (rmL 2 0 0) s m ([.ref h, .int dr, .int de, .int pe, .int op, .int su, .int dy] : List Value).toArray below meth c Hq_ lcq_ 0 0 (MQ below (va_Qi (fun r u => ∃ g : Nat → Int32, ((0 ≤ dr.toInt ∧ dr.toInt ≤ 7 ∧ 0 ≤ de.toInt ∧ de.toInt ≤ 7 ∧ 0 ≤ pe.toInt ∧ pe.toInt ≤ 7 ∧ 1 ≤ su.toInt ∧ su.toInt ≤ 999 ∧ 0 ≤ dy.toInt ∧ dy.toInt ≤ 99) → g 1 = 1) ∧ (((0 ≤ dr.toInt ∧ dr.toInt ≤ 7 ∧ 0 ≤ de.toInt ∧ de.toInt ≤ 7 ∧ 0 ≤ pe.toInt ∧ pe.toInt ≤ 7 ∧ 1 ≤ su.toInt ∧ su.toInt ≤ 999 ∧ 0 ≤ dy.toInt ∧ dy.toInt ≤ 99) ∧ r = 0 ∧ u.1 al = some (.inl (kA 0, 7506, .inl g))) ∨ ((¬ (0 ≤ dr.toInt ∧ dr.toInt ≤ 7 ∧ 0 ≤ de.toInt ∧ de.toInt ≤ 7 ∧ 0 ≤ pe.toInt ∧ pe.toInt ≤ 7 ∧ 1 ≤ su.toInt ∧ su.toInt ≤ 999 ∧ 0 ≤ dy.toInt ∧ dy.toInt ≤ 99)) ∧ r = 30 ∧ u.1 al = some (.inl (kA 0, 7506, .inl g)))) ∧ u.2 = T ∧ (∀ q, q ≠ al → u.1 q = M q)) (mB D kA M T sz) (mA M T sz)) ([.ref h, .int dr, .int de, .int pe, .int op, .int su, .int dy] : List Value).toArray s 0 0 (mA M T sz)) (F0 m 72 ls []) := by
              intro n
              induction n with
              | zero =>
                intro iq36_ Hq_ lcq_ Mq37_ ls fq35_ hi_iq36_ h0_iq36_ h_fq35_ hc_h hc_al hF hH hl
                have hi_iq36_ : iq36_.toInt = 280 := by omega
                refine lv_iload hx hb dX10_draws_72 (lv_at hl 0 rfl) ?_
                refine lv_sipush (v := 280) hx hb dX10_draws_74 (by decide) ?_
                refine jic_ge (tgt := 97) hx hb dX10_draws_77 (by decide) (fun cq38_ => ?_) (fun cq38_ => absurd cq38_ (by have := iRg iq36_; have : (280 : Int32).toInt = 280 := rfl; omega))
                have cq38_ : 280 ≤ iq36_.toInt := cq38_
                refine lv_aload_n hx hb dX10_draws_97 rfl (lv_at hl 2 rfl) ?_
                refine xg hC hK hH flX10_7 hc_h rfl dX10_draws_98 ?_
                refine lv_iload hx hb dX10_draws_101 (lv_at hl 1 rfl) ?_
                refine lv_iconst (v := 0) hx hb dX10_draws_103 (by decide) ?_
                refine lv_iadd hx hb dX10_draws_104 ?_
                refine lv_cst (v := 20) (by decide) ?_
                refine lv_iload_n hx hb dX10_draws_105 rfl (lv_at hl 3 rfl) ?_
                refine yist (x := dr) hC hK hH hc_al (iIn (by decide) (by decide)) dX10_draws_106 (fun Hq_ lcq_ Mq39_ hc_al hfr hH => ?_)
                have hc_al : Mq39_ al = some (.inl (kA 0, 7506, .inl (upd fq35_ (Int32.toNatClampNeg 20) dr))) := hc_al
                have hc_h : Mq39_ h = some (.inr (8, [.ref al, .ref mt, .ref ii, .int 0, .int (-1), .ref pa, .int 0, .int 0, .int 0, .int 0, .int 0, .long 0, .int 0, .ref li])) := (hfr h n_h_al).trans hc_h
                have hF : ∀ q, q ≠ al → Mq39_ q = M q := fun q h0 => (hfr q h0).trans (hF q h0)
                refine lv_aload_n hx hb dX10_draws_107 rfl (lv_at hl 2 rfl) ?_
                refine xg hC hK hH flX10_7 hc_h rfl dX10_draws_108 ?_
                refine lv_iload hx hb dX10_draws_111 (lv_at hl 1 rfl) ?_
                refine lv_iconst (v := 1) hx hb dX10_draws_113 (by decide) ?_
                refine lv_iadd hx hb dX10_draws_114 ?_
                refine lv_cst (v := 21) (by decide) ?_
                refine lv_iload_n hx hb dX10_draws_115 rfl (lv_at hl 4 rfl) ?_
                refine yist (x := de) hC hK hH hc_al (iIn (by decide) (by decide)) dX10_draws_116 (fun Hq_ lcq_ Mq40_ hc_al hfr hH => ?_)
                have hc_al : Mq40_ al = some (.inl (kA 0, 7506, .inl (upd (upd fq35_ (Int32.toNatClampNeg 20) dr) (Int32.toNatClampNeg 21) de))) := hc_al
                have hc_h : Mq40_ h = some (.inr (8, [.ref al, .ref mt, .ref ii, .int 0, .int (-1), .ref pa, .int 0, .int 0, .int 0, .int 0, .int 0, .long 0, .int 0, .ref li])) := (hfr h n_h_al).trans hc_h
                have hF : ∀ q, q ≠ al → Mq40_ q = M q := fun q h0 => (hfr q h0).trans (hF q h0)
                refine lv_aload_n hx hb dX10_draws_117 rfl (lv_at hl 2 rfl) ?_
                refine xg hC hK hH flX10_7 hc_h rfl dX10_draws_118 ?_
                refine lv_iload hx hb dX10_draws_121 (lv_at hl 1 rfl) ?_
                refine lv_iconst (v := 2) hx hb dX10_draws_123 (by decide) ?_
                refine lv_iadd hx hb dX10_draws_124 ?_
                refine lv_cst (v := 22) (by decide) ?_
                refine lv_iload_n hx hb dX10_draws_125 rfl (lv_at hl 5 rfl) ?_
                refine yist (x := pe) hC hK hH hc_al (iIn (by decide) (by decide)) dX10_draws_126 (fun Hq_ lcq_ Mq41_ hc_al hfr hH => ?_)
                have hc_al : Mq41_ al = some (.inl (kA 0, 7506, .inl (upd (upd (upd fq35_ (Int32.toNatClampNeg 20) dr) (Int32.toNatClampNeg 21) de) (Int32.toNatClampNeg 22) pe))) := hc_al
                have hc_h : Mq41_ h = some (.inr (8, [.ref al, .ref mt, .ref ii, .int 0, .int (-1), .ref pa, .int 0, .int 0, .int 0, .int 0, .int 0, .long 0, .int 0, .ref li])) := (hfr h n_h_al).trans hc_h
                have hF : ∀ q, q ≠ al → Mq41_ q = M q := fun q h0 => (hfr q h0).trans (hF q h0)
                refine lv_aload_n hx hb dX10_draws_127 rfl (lv_at hl 2 rfl) ?_
                refine xg hC hK hH flX10_7 hc_h rfl dX10_draws_128 ?_
                refine lv_iload hx hb dX10_draws_131 (lv_at hl 1 rfl) ?_
                refine lv_iconst (v := 3) hx hb dX10_draws_133 (by decide) ?_
                refine lv_iadd hx hb dX10_draws_134 ?_
                refine lv_cst (v := 23) (by decide) ?_
                refine lv_iload hx hb dX10_draws_135 (lv_at hl 7 rfl) ?_
                refine yist (x := su) hC hK hH hc_al (iIn (by decide) (by decide)) dX10_draws_137 (fun Hq_ lcq_ Mq42_ hc_al hfr hH => ?_)
                have hc_al : Mq42_ al = some (.inl (kA 0, 7506, .inl (upd (upd (upd (upd fq35_ (Int32.toNatClampNeg 20) dr) (Int32.toNatClampNeg 21) de) (Int32.toNatClampNeg 22) pe) (Int32.toNatClampNeg 23) su))) := hc_al
                have hc_h : Mq42_ h = some (.inr (8, [.ref al, .ref mt, .ref ii, .int 0, .int (-1), .ref pa, .int 0, .int 0, .int 0, .int 0, .int 0, .long 0, .int 0, .ref li])) := (hfr h n_h_al).trans hc_h
                have hF : ∀ q, q ≠ al → Mq42_ q = M q := fun q h0 => (hfr q h0).trans (hF q h0)
                refine lv_aload_n hx hb dX10_draws_138 rfl (lv_at hl 2 rfl) ?_
                refine xg hC hK hH flX10_7 hc_h rfl dX10_draws_139 ?_
                refine lv_iload hx hb dX10_draws_142 (lv_at hl 1 rfl) ?_
                refine lv_iconst (v := 4) hx hb dX10_draws_144 (by decide) ?_
                refine lv_iadd hx hb dX10_draws_145 ?_
                refine lv_cst (v := 24) (by decide) ?_
                refine lv_aload_n hx hb dX10_draws_146 rfl (lv_at hl 2 rfl) ?_
                refine xg hC hK hH flX10_7 hc_h rfl dX10_draws_147 ?_
                refine lv_iconst (v := 0) hx hb dX10_draws_150 (by decide) ?_
                refine xild hC hK hH hc_al (iIn (by decide) (by decide)) dX10_draws_151 ?_
                refine lv_cst (v := 0) ((pk_un (by decide)).trans ((pk_un (by decide)).trans ((pk_un (by decide)).trans ((pk_un (by decide)).trans ((h_fq35_ _ (by decide)).trans ((hfi _ (by decide)).trans (by decide))))))) ?_
                refine lv_iload hx hb dX10_draws_152 (lv_at hl 8 rfl) ?_
                refine lv_iadd hx hb dX10_draws_154 ?_
                refine lv_topi (fun zq43_ e_zq43_ => ?_)
                have h_zq43_ : zq43_.toInt = 0 + dy.toInt := by rw [e_zq43_, iAdd (by have : (0 : Int32).toInt = 0 := rfl; have := iRg dy; omega) (by have : (0 : Int32).toInt = 0 := rfl; have := iRg dy; omega)]; rfl
                refine yist (x := zq43_) hC hK hH hc_al (iIn (by decide) (by decide)) dX10_draws_155 (fun Hq_ lcq_ Mq44_ hc_al hfr hH => ?_)
                have hc_al : Mq44_ al = some (.inl (kA 0, 7506, .inl (upd (upd (upd (upd (upd fq35_ (Int32.toNatClampNeg 20) dr) (Int32.toNatClampNeg 21) de) (Int32.toNatClampNeg 22) pe) (Int32.toNatClampNeg 23) su) (Int32.toNatClampNeg 24) zq43_))) := hc_al
                have hc_h : Mq44_ h = some (.inr (8, [.ref al, .ref mt, .ref ii, .int 0, .int (-1), .ref pa, .int 0, .int 0, .int 0, .int 0, .int 0, .long 0, .int 0, .ref li])) := (hfr h n_h_al).trans hc_h
                have hF : ∀ q, q ≠ al → Mq44_ q = M q := fun q h0 => (hfr q h0).trans (hF q h0)
                refine lv_aload_n hx hb dX10_draws_156 rfl (lv_at hl 2 rfl) ?_
                refine xg hC hK hH flX10_7 hc_h rfl dX10_draws_157 ?_
                refine lv_iload hx hb dX10_draws_160 (lv_at hl 1 rfl) ?_
                refine lv_iconst (v := 5) hx hb dX10_draws_162 (by decide) ?_
                refine lv_iadd hx hb dX10_draws_163 ?_
                refine lv_cst (v := 25) (by decide) ?_
                refine lv_iload hx hb dX10_draws_164 (lv_at hl 6 rfl) ?_
                refine jif_eq (tgt := 173) hx hb dX10_draws_166 (by decide) (fun cq45_ => ?_) (fun cq45_ => ?_)
                · skip
                  have cq45_ : op.toInt = 0 := cq45_
                  refine lv_iconst (v := 0) hx hb dX10_draws_173 (by decide) ?_
                  refine yist (x := 0) hC hK hH hc_al (iIn (by decide) (by decide)) dX10_draws_174 (fun Hq_ lcq_ Mq46_ hc_al hfr hH => ?_)
                  have hc_al : Mq46_ al = some (.inl (kA 0, 7506, .inl (upd (upd (upd (upd (upd (upd fq35_ (Int32.toNatClampNeg 20) dr) (Int32.toNatClampNeg 21) de) (Int32.toNatClampNeg 22) pe) (Int32.toNatClampNeg 23) su) (Int32.toNatClampNeg 24) zq43_) (Int32.toNatClampNeg 25) 0))) := hc_al
                  have hc_h : Mq46_ h = some (.inr (8, [.ref al, .ref mt, .ref ii, .int 0, .int (-1), .ref pa, .int 0, .int 0, .int 0, .int 0, .int 0, .long 0, .int 0, .ref li])) := (hfr h n_h_al).trans hc_h
                  have hF : ∀ q, q ≠ al → Mq46_ q = M q := fun q h0 => (hfr q h0).trans (hF q h0)
                  refine lv_aload_n hx hb dX10_draws_175 rfl (lv_at hl 2 rfl) ?_
                  refine xg hC hK hH flX10_7 hc_h rfl dX10_draws_176 ?_
                  refine lv_iload hx hb dX10_draws_179 (lv_at hl 1 rfl) ?_
                  refine lv_bipush (v := 7) hx hb dX10_draws_181 (by decide) ?_
                  refine lv_iadd hx hb dX10_draws_183 ?_
                  refine lv_cst (v := 27) (by decide) ?_
                  refine lv_iload_n hx hb dX10_draws_184 rfl (lv_at hl 5 rfl) ?_
                  refine yist (x := pe) hC hK hH hc_al (iIn (by decide) (by decide)) dX10_draws_185 (fun Hq_ lcq_ Mq47_ hc_al hfr hH => ?_)
                  have hc_al : Mq47_ al = some (.inl (kA 0, 7506, .inl (upd (upd (upd (upd (upd (upd (upd fq35_ (Int32.toNatClampNeg 20) dr) (Int32.toNatClampNeg 21) de) (Int32.toNatClampNeg 22) pe) (Int32.toNatClampNeg 23) su) (Int32.toNatClampNeg 24) zq43_) (Int32.toNatClampNeg 25) 0) (Int32.toNatClampNeg 27) pe))) := hc_al
                  have hc_h : Mq47_ h = some (.inr (8, [.ref al, .ref mt, .ref ii, .int 0, .int (-1), .ref pa, .int 0, .int 0, .int 0, .int 0, .int 0, .long 0, .int 0, .ref li])) := (hfr h n_h_al).trans hc_h
                  have hF : ∀ q, q ≠ al → Mq47_ q = M q := fun q h0 => (hfr q h0).trans (hF q h0)
                  refine lv_aload_n hx hb dX10_draws_186 rfl (lv_at hl 2 rfl) ?_
                  refine xg hC hK hH flX10_7 hc_h rfl dX10_draws_187 ?_
                  refine lv_iload hx hb dX10_draws_190 (lv_at hl 1 rfl) ?_
                  refine lv_bipush (v := 9) hx hb dX10_draws_192 (by decide) ?_
                  refine lv_iadd hx hb dX10_draws_194 ?_
                  refine lv_cst (v := 29) (by decide) ?_
                  refine lv_iconst (v := -1) hx hb dX10_draws_195 (by decide) ?_
                  refine yist (x := -1) hC hK hH hc_al (iIn (by decide) (by decide)) dX10_draws_196 (fun Hq_ lcq_ Mq48_ hc_al hfr hH => ?_)
                  have hc_al : Mq48_ al = some (.inl (kA 0, 7506, .inl (upd (upd (upd (upd (upd (upd (upd (upd fq35_ (Int32.toNatClampNeg 20) dr) (Int32.toNatClampNeg 21) de) (Int32.toNatClampNeg 22) pe) (Int32.toNatClampNeg 23) su) (Int32.toNatClampNeg 24) zq43_) (Int32.toNatClampNeg 25) 0) (Int32.toNatClampNeg 27) pe) (Int32.toNatClampNeg 29) (-1)))) := hc_al
                  have hc_h : Mq48_ h = some (.inr (8, [.ref al, .ref mt, .ref ii, .int 0, .int (-1), .ref pa, .int 0, .int 0, .int 0, .int 0, .int 0, .long 0, .int 0, .ref li])) := (hfr h n_h_al).trans hc_h
                  have hF : ∀ q, q ≠ al → Mq48_ q = M q := fun q h0 => (hfr q h0).trans (hF q h0)
                  refine lv_aload_n hx hb dX10_draws_197 rfl (lv_at hl 2 rfl) ?_
                  refine xg hC hK hH flX10_7 hc_h rfl dX10_draws_198 ?_
                  refine lv_iload hx hb dX10_draws_201 (lv_at hl 1 rfl) ?_
                  refine lv_bipush (v := 19) hx hb dX10_draws_203 (by decide) ?_
                  refine lv_iadd hx hb dX10_draws_205 ?_
                  refine lv_cst (v := 39) (by decide) ?_
                  refine lv_iconst (v := -1) hx hb dX10_draws_206 (by decide) ?_
                  refine yist (x := -1) hC hK hH hc_al (iIn (by decide) (by decide)) dX10_draws_207 (fun Hq_ lcq_ Mq49_ hc_al hfr hH => ?_)
                  have hc_al : Mq49_ al = some (.inl (kA 0, 7506, .inl (upd (upd (upd (upd (upd (upd (upd (upd (upd fq35_ (Int32.toNatClampNeg 20) dr) (Int32.toNatClampNeg 21) de) (Int32.toNatClampNeg 22) pe) (Int32.toNatClampNeg 23) su) (Int32.toNatClampNeg 24) zq43_) (Int32.toNatClampNeg 25) 0) (Int32.toNatClampNeg 27) pe) (Int32.toNatClampNeg 29) (-1)) (Int32.toNatClampNeg 39) (-1)))) := hc_al
                  have hc_h : Mq49_ h = some (.inr (8, [.ref al, .ref mt, .ref ii, .int 0, .int (-1), .ref pa, .int 0, .int 0, .int 0, .int 0, .int 0, .long 0, .int 0, .ref li])) := (hfr h n_h_al).trans hc_h
                  have hF : ∀ q, q ≠ al → Mq49_ q = M q := fun q h0 => (hfr q h0).trans (hF q h0)
                  refine lv_aload_n hx hb dX10_draws_208 rfl (lv_at hl 2 rfl) ?_
                  refine lv_iload hx hb dX10_draws_209 (lv_at hl 1 rfl) ?_
                  refine lv_iconst (v := 0) hx hb dX10_draws_211 (by decide) ?_
                  refine goI hK hH (runS (As := [.int 20, .int 0]) (rest := [.ref h]) hC hK hH (c_X10_partyAt_0) mlX10_56 ⟨⟨Nat.le_of_ble_eq_true rfl, Nat.le_of_ble_eq_true rfl⟩, Nat.le_of_ble_eq_true rfl, Nat.le_of_ble_eq_true rfl⟩ rfl hl.1 rfl (Nat.le_of_ble_eq_true rfl) dX10_draws_212) (fun rq52_ Mq50_ Tq51_ Hq_ lcq_ hP hz hH => ?_)
                  try dsimp only at hP
                  obtain ⟨(rfl), eT, eM⟩ := hP
                  have eT := eT.symm; subst eT
                  have eM := eM.symm; subst eM
                  refine goV hK hH (runV (As := [.int 204]) (rest := []) hC hK hH (c_X10_clears_204 hc_h hc_al) mlX10_59 (rcvM hK hH hc_h rfl) ⟨⟨Nat.le_of_ble_eq_true rfl, Nat.le_of_ble_eq_true rfl⟩, Nat.le_of_ble_eq_true rfl, Nat.le_of_ble_eq_true rfl⟩ rfl hl.1 rfl (Nat.le_of_ble_eq_true rfl) dX10_draws_215) (fun Mq53_ Tq54_ Hq_ lcq_ hP hz hH => ?_)
                  try dsimp only at hP
                  obtain ⟨gq56_, h_gq56_, (hx_al), eT, hfr⟩ := hP
                  have eT := eT.symm; subst eT
                  have hc_h : Mq53_ h = some (.inr (8, [.ref al, .ref mt, .ref ii, .int 0, .int (-1), .ref pa, .int 0, .int 0, .int 0, .int 0, .int 0, .long 0, .int 0, .ref li])) := (hfr h n_h_al).trans hc_h
                  have hc_al : Mq53_ al = some (.inl (kA 0, 7506, .inl gq56_)) := hx_al
                  have hF : ∀ q, q ≠ al → Mq53_ q = M q := fun q h0 => (hfr q h0).trans (hF q h0)
                  refine lv_aload_n hx hb dX10_draws_218 rfl (lv_at hl 2 rfl) ?_
                  refine lv_iload hx hb dX10_draws_219 (lv_at hl 1 rfl) ?_
                  refine lv_iconst (v := 1) hx hb dX10_draws_221 (by decide) ?_
                  refine goI hK hH (runS (As := [.int 20, .int 1]) (rest := [.ref h]) hC hK hH (c_X10_partyAt_1) mlX10_56 ⟨⟨Nat.le_of_ble_eq_true rfl, Nat.le_of_ble_eq_true rfl⟩, Nat.le_of_ble_eq_true rfl, Nat.le_of_ble_eq_true rfl⟩ rfl hl.1 rfl (Nat.le_of_ble_eq_true rfl) dX10_draws_222) (fun rq59_ Mq57_ Tq58_ Hq_ lcq_ hP hz hH => ?_)
                  try dsimp only at hP
                  obtain ⟨(rfl), eT, eM⟩ := hP
                  have eT := eT.symm; subst eT
                  have eM := eM.symm; subst eM
                  refine goV hK hH (runV (As := [.int 210]) (rest := []) hC hK hH (c_X10_clears_210 hc_h hc_al) mlX10_59 (rcvM hK hH hc_h rfl) ⟨⟨Nat.le_of_ble_eq_true rfl, Nat.le_of_ble_eq_true rfl⟩, Nat.le_of_ble_eq_true rfl, Nat.le_of_ble_eq_true rfl⟩ rfl hl.1 rfl (Nat.le_of_ble_eq_true rfl) dX10_draws_225) (fun Mq60_ Tq61_ Hq_ lcq_ hP hz hH => ?_)
                  try dsimp only at hP
                  obtain ⟨gq63_, h_gq63_, (hx_al), eT, hfr⟩ := hP
                  have eT := eT.symm; subst eT
                  have hc_h : Mq60_ h = some (.inr (8, [.ref al, .ref mt, .ref ii, .int 0, .int (-1), .ref pa, .int 0, .int 0, .int 0, .int 0, .int 0, .long 0, .int 0, .ref li])) := (hfr h n_h_al).trans hc_h
                  have hc_al : Mq60_ al = some (.inl (kA 0, 7506, .inl gq63_)) := hx_al
                  have hF : ∀ q, q ≠ al → Mq60_ q = M q := fun q h0 => (hfr q h0).trans (hF q h0)
                  refine lv_aload_n hx hb dX10_draws_228 rfl (lv_at hl 2 rfl) ?_
                  refine lv_iload hx hb dX10_draws_229 (lv_at hl 1 rfl) ?_
                  refine goV hK hH (runV (As := [.int 20]) (rest := []) hC hK hH (c_X10_startsChain (pe := pe) hc_h hc_al (by exact ((h_gq63_ _ (by decide)).trans ((h_gq56_ _ (by decide)).trans pk_us))) (by exact ((h_gq63_ _ (by decide)).trans ((h_gq56_ _ (by decide)).trans ((pk_un (by decide)).trans ((pk_un (by decide)).trans ((pk_un (by decide)).trans ((pk_un (by decide)).trans ((pk_un (by decide)).trans ((pk_un (by decide)).trans pk_us))))))))) (by omega)) mlX10_91 (rcvM hK hH hc_h rfl) ⟨⟨Nat.le_of_ble_eq_true rfl, Nat.le_of_ble_eq_true rfl⟩, Nat.le_of_ble_eq_true rfl, Nat.le_of_ble_eq_true rfl⟩ rfl hl.1 rfl (Nat.le_of_ble_eq_true rfl) dX10_draws_231) (fun Mq64_ Tq65_ Hq_ lcq_ hP hz hH => ?_)
                  try dsimp only at hP
                  obtain ⟨gq67_, h_gq67_, (hx_al), eT, hfr⟩ := hP
                  have eT := eT.symm; subst eT
                  have hc_h : Mq64_ h = some (.inr (8, [.ref al, .ref mt, .ref ii, .int 0, .int (-1), .ref pa, .int 0, .int 0, .int 0, .int 0, .int 0, .long 0, .int 0, .ref li])) := (hfr h n_h_al).trans hc_h
                  have hc_al : Mq64_ al = some (.inl (kA 0, 7506, .inl gq67_)) := hx_al
                  have hF : ∀ q, q ≠ al → Mq64_ q = M q := fun q h0 => (hfr q h0).trans (hF q h0)
                  refine lv_aload_n hx hb dX10_draws_234 rfl (lv_at hl 2 rfl) ?_
                  refine xg hC hK hH flX10_7 hc_h rfl dX10_draws_235 ?_
                  refine lv_iconst (v := 1) hx hb dX10_draws_238 (by decide) ?_
                  refine lv_dup2_11 hx hb dX10_draws_239 rfl rfl ?_
                  refine xild hC hK hH hc_al (iIn (by decide) (by decide)) dX10_draws_240 ?_
                  refine lv_cst (v := 0) ((h_gq67_ _ (by decide)).trans ((h_gq63_ _ (by decide)).trans ((h_gq56_ _ (by decide)).trans ((pk_un (by decide)).trans ((pk_un (by decide)).trans ((pk_un (by decide)).trans ((pk_un (by decide)).trans ((pk_un (by decide)).trans ((pk_un (by decide)).trans ((pk_un (by decide)).trans ((pk_un (by decide)).trans ((pk_un (by decide)).trans ((h_fq35_ _ (by decide)).trans ((hfi _ (by decide)).trans (by decide))))))))))))))) ?_
                  refine lv_iconst (v := 1) hx hb dX10_draws_241 (by decide) ?_
                  refine lv_iadd hx hb dX10_draws_242 ?_
                  refine lv_cst (v := 1) (by decide) ?_
                  refine yist (x := 1) hC hK hH hc_al (iIn (by decide) (by decide)) dX10_draws_243 (fun Hq_ lcq_ Mq68_ hc_al hfr hH => ?_)
                  have hc_al : Mq68_ al = some (.inl (kA 0, 7506, .inl (upd gq67_ (Int32.toNatClampNeg 1) 1))) := hc_al
                  have hc_h : Mq68_ h = some (.inr (8, [.ref al, .ref mt, .ref ii, .int 0, .int (-1), .ref pa, .int 0, .int 0, .int 0, .int 0, .int 0, .long 0, .int 0, .ref li])) := (hfr h n_h_al).trans hc_h
                  have hF : ∀ q, q ≠ al → Mq68_ q = M q := fun q h0 => (hfr q h0).trans (hF q h0)
                  refine lv_iconst (v := 0) hx hb dX10_draws_244 (by decide) ?_
                  exact ret_i hC hr hlk hK hH (⟨_, fun _ => pk_us, Or.inl (⟨by omega, rfl, hc_al⟩), rfl, hF⟩) (Nat.le_of_ble_eq_true rfl) (Nat.le_of_ble_eq_true rfl) dX10_draws_245
                · skip
                  have cq45_ : op.toInt ≠ 0 := cq45_
                  refine lv_iconst (v := 1) hx hb dX10_draws_169 (by decide) ?_
                  refine lv_goto (tgt := 174) hx hb dX10_draws_170 (by decide) ?_
                  refine yist (x := 1) hC hK hH hc_al (iIn (by decide) (by decide)) dX10_draws_174 (fun Hq_ lcq_ Mq69_ hc_al hfr hH => ?_)
                  have hc_al : Mq69_ al = some (.inl (kA 0, 7506, .inl (upd (upd (upd (upd (upd (upd fq35_ (Int32.toNatClampNeg 20) dr) (Int32.toNatClampNeg 21) de) (Int32.toNatClampNeg 22) pe) (Int32.toNatClampNeg 23) su) (Int32.toNatClampNeg 24) zq43_) (Int32.toNatClampNeg 25) 1))) := hc_al
                  have hc_h : Mq69_ h = some (.inr (8, [.ref al, .ref mt, .ref ii, .int 0, .int (-1), .ref pa, .int 0, .int 0, .int 0, .int 0, .int 0, .long 0, .int 0, .ref li])) := (hfr h n_h_al).trans hc_h
                  have hF : ∀ q, q ≠ al → Mq69_ q = M q := fun q h0 => (hfr q h0).trans (hF q h0)
                  refine lv_aload_n hx hb dX10_draws_175 rfl (lv_at hl 2 rfl) ?_
                  refine xg hC hK hH flX10_7 hc_h rfl dX10_draws_176 ?_
                  refine lv_iload hx hb dX10_draws_179 (lv_at hl 1 rfl) ?_
                  refine lv_bipush (v := 7) hx hb dX10_draws_181 (by decide) ?_
                  refine lv_iadd hx hb dX10_draws_183 ?_
                  refine lv_cst (v := 27) (by decide) ?_
                  refine lv_iload_n hx hb dX10_draws_184 rfl (lv_at hl 5 rfl) ?_
                  refine yist (x := pe) hC hK hH hc_al (iIn (by decide) (by decide)) dX10_draws_185 (fun Hq_ lcq_ Mq70_ hc_al hfr hH => ?_)
                  have hc_al : Mq70_ al = some (.inl (kA 0, 7506, .inl (upd (upd (upd (upd (upd (upd (upd fq35_ (Int32.toNatClampNeg 20) dr) (Int32.toNatClampNeg 21) de) (Int32.toNatClampNeg 22) pe) (Int32.toNatClampNeg 23) su) (Int32.toNatClampNeg 24) zq43_) (Int32.toNatClampNeg 25) 1) (Int32.toNatClampNeg 27) pe))) := hc_al
                  have hc_h : Mq70_ h = some (.inr (8, [.ref al, .ref mt, .ref ii, .int 0, .int (-1), .ref pa, .int 0, .int 0, .int 0, .int 0, .int 0, .long 0, .int 0, .ref li])) := (hfr h n_h_al).trans hc_h
                  have hF : ∀ q, q ≠ al → Mq70_ q = M q := fun q h0 => (hfr q h0).trans (hF q h0)
                  refine lv_aload_n hx hb dX10_draws_186 rfl (lv_at hl 2 rfl) ?_
                  refine xg hC hK hH flX10_7 hc_h rfl dX10_draws_187 ?_
                  refine lv_iload hx hb dX10_draws_190 (lv_at hl 1 rfl) ?_
                  refine lv_bipush (v := 9) hx hb dX10_draws_192 (by decide) ?_
                  refine lv_iadd hx hb dX10_draws_194 ?_
                  refine lv_cst (v := 29) (by decide) ?_
                  refine lv_iconst (v := -1) hx hb dX10_draws_195 (by decide) ?_
                  refine yist (x := -1) hC hK hH hc_al (iIn (by decide) (by decide)) dX10_draws_196 (fun Hq_ lcq_ Mq71_ hc_al hfr hH => ?_)
                  have hc_al : Mq71_ al = some (.inl (kA 0, 7506, .inl (upd (upd (upd (upd (upd (upd (upd (upd fq35_ (Int32.toNatClampNeg 20) dr) (Int32.toNatClampNeg 21) de) (Int32.toNatClampNeg 22) pe) (Int32.toNatClampNeg 23) su) (Int32.toNatClampNeg 24) zq43_) (Int32.toNatClampNeg 25) 1) (Int32.toNatClampNeg 27) pe) (Int32.toNatClampNeg 29) (-1)))) := hc_al
                  have hc_h : Mq71_ h = some (.inr (8, [.ref al, .ref mt, .ref ii, .int 0, .int (-1), .ref pa, .int 0, .int 0, .int 0, .int 0, .int 0, .long 0, .int 0, .ref li])) := (hfr h n_h_al).trans hc_h
                  have hF : ∀ q, q ≠ al → Mq71_ q = M q := fun q h0 => (hfr q h0).trans (hF q h0)
                  refine lv_aload_n hx hb dX10_draws_197 rfl (lv_at hl 2 rfl) ?_
                  refine xg hC hK hH flX10_7 hc_h rfl dX10_draws_198 ?_
                  refine lv_iload hx hb dX10_draws_201 (lv_at hl 1 rfl) ?_
                  refine lv_bipush (v := 19) hx hb dX10_draws_203 (by decide) ?_
                  refine lv_iadd hx hb dX10_draws_205 ?_
                  refine lv_cst (v := 39) (by decide) ?_
                  refine lv_iconst (v := -1) hx hb dX10_draws_206 (by decide) ?_
                  refine yist (x := -1) hC hK hH hc_al (iIn (by decide) (by decide)) dX10_draws_207 (fun Hq_ lcq_ Mq72_ hc_al hfr hH => ?_)
                  have hc_al : Mq72_ al = some (.inl (kA 0, 7506, .inl (upd (upd (upd (upd (upd (upd (upd (upd (upd fq35_ (Int32.toNatClampNeg 20) dr) (Int32.toNatClampNeg 21) de) (Int32.toNatClampNeg 22) pe) (Int32.toNatClampNeg 23) su) (Int32.toNatClampNeg 24) zq43_) (Int32.toNatClampNeg 25) 1) (Int32.toNatClampNeg 27) pe) (Int32.toNatClampNeg 29) (-1)) (Int32.toNatClampNeg 39) (-1)))) := hc_al
                  have hc_h : Mq72_ h = some (.inr (8, [.ref al, .ref mt, .ref ii, .int 0, .int (-1), .ref pa, .int 0, .int 0, .int 0, .int 0, .int 0, .long 0, .int 0, .ref li])) := (hfr h n_h_al).trans hc_h
                  have hF : ∀ q, q ≠ al → Mq72_ q = M q := fun q h0 => (hfr q h0).trans (hF q h0)
                  refine lv_aload_n hx hb dX10_draws_208 rfl (lv_at hl 2 rfl) ?_
                  refine lv_iload hx hb dX10_draws_209 (lv_at hl 1 rfl) ?_
                  refine lv_iconst (v := 0) hx hb dX10_draws_211 (by decide) ?_
                  refine goI hK hH (runS (As := [.int 20, .int 0]) (rest := [.ref h]) hC hK hH (c_X10_partyAt_0) mlX10_56 ⟨⟨Nat.le_of_ble_eq_true rfl, Nat.le_of_ble_eq_true rfl⟩, Nat.le_of_ble_eq_true rfl, Nat.le_of_ble_eq_true rfl⟩ rfl hl.1 rfl (Nat.le_of_ble_eq_true rfl) dX10_draws_212) (fun rq75_ Mq73_ Tq74_ Hq_ lcq_ hP hz hH => ?_)
                  try dsimp only at hP
                  obtain ⟨(rfl), eT, eM⟩ := hP
                  have eT := eT.symm; subst eT
                  have eM := eM.symm; subst eM
                  refine goV hK hH (runV (As := [.int 204]) (rest := []) hC hK hH (c_X10_clears_204 hc_h hc_al) mlX10_59 (rcvM hK hH hc_h rfl) ⟨⟨Nat.le_of_ble_eq_true rfl, Nat.le_of_ble_eq_true rfl⟩, Nat.le_of_ble_eq_true rfl, Nat.le_of_ble_eq_true rfl⟩ rfl hl.1 rfl (Nat.le_of_ble_eq_true rfl) dX10_draws_215) (fun Mq76_ Tq77_ Hq_ lcq_ hP hz hH => ?_)
                  try dsimp only at hP
                  obtain ⟨gq79_, h_gq79_, (hx_al), eT, hfr⟩ := hP
                  have eT := eT.symm; subst eT
                  have hc_h : Mq76_ h = some (.inr (8, [.ref al, .ref mt, .ref ii, .int 0, .int (-1), .ref pa, .int 0, .int 0, .int 0, .int 0, .int 0, .long 0, .int 0, .ref li])) := (hfr h n_h_al).trans hc_h
                  have hc_al : Mq76_ al = some (.inl (kA 0, 7506, .inl gq79_)) := hx_al
                  have hF : ∀ q, q ≠ al → Mq76_ q = M q := fun q h0 => (hfr q h0).trans (hF q h0)
                  refine lv_aload_n hx hb dX10_draws_218 rfl (lv_at hl 2 rfl) ?_
                  refine lv_iload hx hb dX10_draws_219 (lv_at hl 1 rfl) ?_
                  refine lv_iconst (v := 1) hx hb dX10_draws_221 (by decide) ?_
                  refine goI hK hH (runS (As := [.int 20, .int 1]) (rest := [.ref h]) hC hK hH (c_X10_partyAt_1) mlX10_56 ⟨⟨Nat.le_of_ble_eq_true rfl, Nat.le_of_ble_eq_true rfl⟩, Nat.le_of_ble_eq_true rfl, Nat.le_of_ble_eq_true rfl⟩ rfl hl.1 rfl (Nat.le_of_ble_eq_true rfl) dX10_draws_222) (fun rq82_ Mq80_ Tq81_ Hq_ lcq_ hP hz hH => ?_)
                  try dsimp only at hP
                  obtain ⟨(rfl), eT, eM⟩ := hP
                  have eT := eT.symm; subst eT
                  have eM := eM.symm; subst eM
                  refine goV hK hH (runV (As := [.int 210]) (rest := []) hC hK hH (c_X10_clears_210 hc_h hc_al) mlX10_59 (rcvM hK hH hc_h rfl) ⟨⟨Nat.le_of_ble_eq_true rfl, Nat.le_of_ble_eq_true rfl⟩, Nat.le_of_ble_eq_true rfl, Nat.le_of_ble_eq_true rfl⟩ rfl hl.1 rfl (Nat.le_of_ble_eq_true rfl) dX10_draws_225) (fun Mq83_ Tq84_ Hq_ lcq_ hP hz hH => ?_)
                  try dsimp only at hP
                  obtain ⟨gq86_, h_gq86_, (hx_al), eT, hfr⟩ := hP
                  have eT := eT.symm; subst eT
                  have hc_h : Mq83_ h = some (.inr (8, [.ref al, .ref mt, .ref ii, .int 0, .int (-1), .ref pa, .int 0, .int 0, .int 0, .int 0, .int 0, .long 0, .int 0, .ref li])) := (hfr h n_h_al).trans hc_h
                  have hc_al : Mq83_ al = some (.inl (kA 0, 7506, .inl gq86_)) := hx_al
                  have hF : ∀ q, q ≠ al → Mq83_ q = M q := fun q h0 => (hfr q h0).trans (hF q h0)
                  refine lv_aload_n hx hb dX10_draws_228 rfl (lv_at hl 2 rfl) ?_
                  refine lv_iload hx hb dX10_draws_229 (lv_at hl 1 rfl) ?_
                  refine goV hK hH (runV (As := [.int 20]) (rest := []) hC hK hH (c_X10_startsChain (pe := pe) hc_h hc_al (by exact ((h_gq86_ _ (by decide)).trans ((h_gq79_ _ (by decide)).trans pk_us))) (by exact ((h_gq86_ _ (by decide)).trans ((h_gq79_ _ (by decide)).trans ((pk_un (by decide)).trans ((pk_un (by decide)).trans ((pk_un (by decide)).trans ((pk_un (by decide)).trans ((pk_un (by decide)).trans ((pk_un (by decide)).trans pk_us))))))))) (by omega)) mlX10_91 (rcvM hK hH hc_h rfl) ⟨⟨Nat.le_of_ble_eq_true rfl, Nat.le_of_ble_eq_true rfl⟩, Nat.le_of_ble_eq_true rfl, Nat.le_of_ble_eq_true rfl⟩ rfl hl.1 rfl (Nat.le_of_ble_eq_true rfl) dX10_draws_231) (fun Mq87_ Tq88_ Hq_ lcq_ hP hz hH => ?_)
                  try dsimp only at hP
                  obtain ⟨gq90_, h_gq90_, (hx_al), eT, hfr⟩ := hP
                  have eT := eT.symm; subst eT
                  have hc_h : Mq87_ h = some (.inr (8, [.ref al, .ref mt, .ref ii, .int 0, .int (-1), .ref pa, .int 0, .int 0, .int 0, .int 0, .int 0, .long 0, .int 0, .ref li])) := (hfr h n_h_al).trans hc_h
                  have hc_al : Mq87_ al = some (.inl (kA 0, 7506, .inl gq90_)) := hx_al
                  have hF : ∀ q, q ≠ al → Mq87_ q = M q := fun q h0 => (hfr q h0).trans (hF q h0)
                  refine lv_aload_n hx hb dX10_draws_234 rfl (lv_at hl 2 rfl) ?_
                  refine xg hC hK hH flX10_7 hc_h rfl dX10_draws_235 ?_
                  refine lv_iconst (v := 1) hx hb dX10_draws_238 (by decide) ?_
                  refine lv_dup2_11 hx hb dX10_draws_239 rfl rfl ?_
                  refine xild hC hK hH hc_al (iIn (by decide) (by decide)) dX10_draws_240 ?_
                  refine lv_cst (v := 0) ((h_gq90_ _ (by decide)).trans ((h_gq86_ _ (by decide)).trans ((h_gq79_ _ (by decide)).trans ((pk_un (by decide)).trans ((pk_un (by decide)).trans ((pk_un (by decide)).trans ((pk_un (by decide)).trans ((pk_un (by decide)).trans ((pk_un (by decide)).trans ((pk_un (by decide)).trans ((pk_un (by decide)).trans ((pk_un (by decide)).trans ((h_fq35_ _ (by decide)).trans ((hfi _ (by decide)).trans (by decide))))))))))))))) ?_
                  refine lv_iconst (v := 1) hx hb dX10_draws_241 (by decide) ?_
                  refine lv_iadd hx hb dX10_draws_242 ?_
                  refine lv_cst (v := 1) (by decide) ?_
                  refine yist (x := 1) hC hK hH hc_al (iIn (by decide) (by decide)) dX10_draws_243 (fun Hq_ lcq_ Mq91_ hc_al hfr hH => ?_)
                  have hc_al : Mq91_ al = some (.inl (kA 0, 7506, .inl (upd gq90_ (Int32.toNatClampNeg 1) 1))) := hc_al
                  have hc_h : Mq91_ h = some (.inr (8, [.ref al, .ref mt, .ref ii, .int 0, .int (-1), .ref pa, .int 0, .int 0, .int 0, .int 0, .int 0, .long 0, .int 0, .ref li])) := (hfr h n_h_al).trans hc_h
                  have hF : ∀ q, q ≠ al → Mq91_ q = M q := fun q h0 => (hfr q h0).trans (hF q h0)
                  refine lv_iconst (v := 0) hx hb dX10_draws_244 (by decide) ?_
                  exact ret_i hC hr hlk hK hH (⟨_, fun _ => pk_us, Or.inl (⟨by omega, rfl, hc_al⟩), rfl, hF⟩) (Nat.le_of_ble_eq_true rfl) (Nat.le_of_ble_eq_true rfl) dX10_draws_245
              | succ n ih =>
                intro iq36_ Hq_ lcq_ Mq37_ ls fq35_ hi_iq36_ h0_iq36_ h_fq35_ hc_h hc_al hF hH hl
                have hj_iq36_ : iq36_.toInt ≤ 279 := by omega
                refine lv_iload hx hb dX10_draws_72 (lv_at hl 0 rfl) ?_
                refine lv_sipush (v := 280) hx hb dX10_draws_74 (by decide) ?_
                refine jic_ge (tgt := 97) hx hb dX10_draws_77 (by decide) (fun cq92_ => absurd cq92_ (by have := iRg iq36_; have : (280 : Int32).toInt = 280 := rfl; omega)) (fun cq92_ => ?_)
                have cq92_ : iq36_.toInt < 280 := cq92_
                refine lv_aload_n hx hb dX10_draws_80 rfl (lv_at hl 2 rfl) ?_
                refine xg hC hK hH flX10_7 hc_h rfl dX10_draws_81 ?_
                refine lv_iload hx hb dX10_draws_84 (lv_at hl 1 rfl) ?_
                refine lv_iload hx hb dX10_draws_86 (lv_at hl 0 rfl) ?_
                refine lv_iadd hx hb dX10_draws_88 ?_
                refine lv_topi (fun zq93_ e_zq93_ => ?_)
                have h_zq93_ : zq93_.toInt = 20 + iq36_.toInt := by rw [e_zq93_, iAdd (by have : (20 : Int32).toInt = 20 := rfl; have := iRg iq36_; omega) (by have : (20 : Int32).toInt = 20 := rfl; have := iRg iq36_; omega)]; rfl
                refine lv_iconst (v := 0) hx hb dX10_draws_89 (by decide) ?_
                refine yist (x := 0) hC hK hH hc_al (iIn (by omega) (by omega)) dX10_draws_90 (fun Hq_ lcq_ Mq94_ hc_al hfr hH => ?_)
                have hc_al : Mq94_ al = some (.inl (kA 0, 7506, .inl (upd fq35_ (Int32.toNatClampNeg zq93_) 0))) := hc_al
                have hc_h : Mq94_ h = some (.inr (8, [.ref al, .ref mt, .ref ii, .int 0, .int (-1), .ref pa, .int 0, .int 0, .int 0, .int 0, .int 0, .long 0, .int 0, .ref li])) := (hfr h n_h_al).trans hc_h
                have hF : ∀ q, q ≠ al → Mq94_ q = M q := fun q h0 => (hfr q h0).trans (hF q h0)
                obtain ⟨zq95_, e_zq95_⟩ : ∃ y : Int32, y = iq36_ + 1 := ⟨_, rfl⟩
                refine lv_iinc (v := zq95_) (lv' := [(8, .int zq95_), (7, .int 20), (0, .ref h), (1, .int dr), (2, .int de), (3, .int pe), (4, .int op), (5, .int su), (6, .int dy)]) hx hb dX10_draws_91 hl (k := 0) rfl (by rw [e_zq95_]; rfl) (by decide) rfl (fun ls hl => ?_)
                have h_zq95_ : zq95_.toInt = iq36_.toInt + 1 := by rw [e_zq95_, iAdd (by have : (1 : Int32).toInt = 1 := rfl; omega) (by have : (1 : Int32).toInt = 1 := rfl; omega)]; rfl
                refine lv_goto (tgt := 72) hx hb dX10_draws_94 (by decide) ?_
                exact ih zq95_ _ _ _ ls _ (by omega) (by omega) (fun j hj => ((pk_un (by have := iCl (x := zq93_) (by omega); omega)).trans ((h_fq35_ _ (by omega)).trans rfl))) hc_h hc_al hF hH (lv_sub hl [0, 1, 2, 3, 4, 5, 6, 7, 8] rfl)
            exact loop 280 0 _ _ _ ls _ (by decide) (by decide) (fun j hj => rfl) hc_h hc_al hF hH hl
          · skip
            have eT := eT.symm; subst eT
            have eM := eM.symm; subst eM
            have cq29_ : ¬ ((0 : Int) ≤ dy.toInt ∧ dy.toInt ≤ (99 : Int)) := cq29_
            refine jif_eq (tgt := 54) hx hb dX10_draws_41 (by decide) (fun cq96_ => ?_) (fun cq96_ => absurd cq96_ (by decide))
            refine lv_bipush (v := 30) hx hb dX10_draws_54 (by decide) ?_
            exact ret_i hC hr hlk hK hH (⟨_, fun hh => absurd hh (by omega), Or.inr (⟨by omega, rfl, hc_al⟩), rfl, hF⟩) (Nat.le_of_ble_eq_true rfl) (Nat.le_of_ble_eq_true rfl) dX10_draws_56
        · skip
          have eT := eT.symm; subst eT
          have eM := eM.symm; subst eM
          have cq23_ : ¬ ((1 : Int) ≤ su.toInt ∧ su.toInt ≤ (999 : Int)) := cq23_
          refine jif_eq (tgt := 54) hx hb dX10_draws_30 (by decide) (fun cq97_ => ?_) (fun cq97_ => absurd cq97_ (by decide))
          refine lv_bipush (v := 30) hx hb dX10_draws_54 (by decide) ?_
          exact ret_i hC hr hlk hK hH (⟨_, fun hh => absurd hh (by omega), Or.inr (⟨by omega, rfl, hc_al⟩), rfl, hF⟩) (Nat.le_of_ble_eq_true rfl) (Nat.le_of_ble_eq_true rfl) dX10_draws_56
      · skip
        have eT := eT.symm; subst eT
        have eM := eM.symm; subst eM
        have cq17_ : ¬ (0 ≤ pe.toInt ∧ pe.toInt ≤ 7) := cq17_
        refine jif_eq (tgt := 54) hx hb dX10_draws_18 (by decide) (fun cq98_ => ?_) (fun cq98_ => absurd cq98_ (by decide))
        refine lv_bipush (v := 30) hx hb dX10_draws_54 (by decide) ?_
        exact ret_i hC hr hlk hK hH (⟨_, fun hh => absurd hh (by omega), Or.inr (⟨by omega, rfl, hc_al⟩), rfl, hF⟩) (Nat.le_of_ble_eq_true rfl) (Nat.le_of_ble_eq_true rfl) dX10_draws_56
    · skip
      have eT := eT.symm; subst eT
      have eM := eM.symm; subst eM
      have cq11_ : ¬ (0 ≤ de.toInt ∧ de.toInt ≤ 7) := cq11_
      refine jif_eq (tgt := 54) hx hb dX10_draws_11 (by decide) (fun cq99_ => ?_) (fun cq99_ => absurd cq99_ (by decide))
      refine lv_bipush (v := 30) hx hb dX10_draws_54 (by decide) ?_
      exact ret_i hC hr hlk hK hH (⟨_, fun hh => absurd hh (by omega), Or.inr (⟨by omega, rfl, hc_al⟩), rfl, hF⟩) (Nat.le_of_ble_eq_true rfl) (Nat.le_of_ble_eq_true rfl) dX10_draws_56
  · skip
    have eT := eT.symm; subst eT
    have eM := eM.symm; subst eM
    have cq5_ : ¬ (0 ≤ dr.toInt ∧ dr.toInt ≤ 7) := cq5_
    refine jif_eq (tgt := 54) hx hb dX10_draws_4 (by decide) (fun cq100_ => ?_) (fun cq100_ => absurd cq100_ (by decide))
    refine lv_bipush (v := 30) hx hb dX10_draws_54 (by decide) ?_
    exact ret_i hC hr hlk hK hH (⟨_, fun hh => absurd hh (by omega), Or.inr (⟨by omega, rfl, hc_al⟩), rfl, hF⟩) (Nat.le_of_ble_eq_true rfl) (Nat.le_of_ble_eq_true rfl) dX10_draws_56
set_option maxHeartbeats 4000000 in
set_option maxRecDepth 100000 in
theorem c_X10_draw {l : Launch} {D : va_G} {kA : Nat → ClassId} {M : mM} {T : mT} {sz : Nat} {h al mt ii pa li : Nat} {f : Nat → Int32} {dr de pe su dy : Int32} (hc_h : M h = some (.inr (8, [.ref al, .ref mt, .ref ii, .int 0, .int (-1), .ref pa, .int 0, .int 0, .int 0, .int 0, .int 0, .long 0, .int 0, .ref li]))) (hc_al : M al = some (.inl (kA 0, 7506, .inl f))) (hfi : ∀ j, j < 1140 → f j = mIni j) : mCi l yX10_draw cX10_draw 8 (some .int) 3 0 0 D kA M T sz [.ref h, .int dr, .int de, .int pe, .int su, .int dy] (fun r u => (((0 ≤ dr.toInt ∧ dr.toInt ≤ 7 ∧ 0 ≤ de.toInt ∧ de.toInt ≤ 7 ∧ (0 ≤ pe.toInt ∧ pe.toInt ≤ 7 ∨ 10 ≤ pe.toInt ∧ pe.toInt ≤ 17) ∧ 1 ≤ su.toInt ∧ su.toInt ≤ 999 ∧ 0 ≤ dy.toInt ∧ dy.toInt ≤ 99) ∧ r = 0) ∨ ((¬ (0 ≤ dr.toInt ∧ dr.toInt ≤ 7 ∧ 0 ≤ de.toInt ∧ de.toInt ≤ 7 ∧ (0 ≤ pe.toInt ∧ pe.toInt ≤ 7 ∨ 10 ≤ pe.toInt ∧ pe.toInt ≤ 17) ∧ 1 ≤ su.toInt ∧ su.toInt ≤ 999 ∧ 0 ≤ dy.toInt ∧ dy.toInt ≤ 99)) ∧ r = -30)) ∧ u.2 = T ∧ (∀ q, q ≠ al → u.1 q = M q)) := by
  unfold mCi
  refine start_W (by decide) (Nat.le_of_ble_eq_true rfl) ?_
  intro p e s m below meth c ls hC hr hlk hnm hK hH hsz hl
  have hx := hC.1
  have hb := hC.2.1
  have hl : lv_has ls 8 [(0, .ref h), (1, .int dr), (2, .int de), (3, .int pe), (4, .int su), (5, .int dy)] := hl
  have hF : ∀ q, q ≠ al → M q = M q := fun q _ => rfl
  have n_h_al : h ≠ al := neM hc_h hc_al (by simp)
  have n_al_h : al ≠ h := neM hc_al hc_h (by simp)
  refine lv_iload_n hx hb dX10_draw_0 rfl (lv_at hl 3 rfl) ?_
  refine lv_bipush (v := 9) hx hb dX10_draw_1 (by decide) ?_
  refine jic_le (tgt := 10) hx hb dX10_draw_3 (by decide) (fun cq1_ => ?_) (fun cq1_ => ?_)
  · skip
    have cq1_ : pe.toInt ≤ 9 := cq1_
    refine lv_iconst (v := 0) hx hb dX10_draw_10 (by decide) ?_
    refine lv_istore (lv' := [(6, .int 0), (0, .ref h), (1, .int dr), (2, .int de), (3, .int pe), (4, .int su), (5, .int dy)]) hx hb dX10_draw_11 hl (by decide) rfl (fun ls hl => ?_)
    refine lv_aload_n hx hb dX10_draw_13 rfl (lv_at hl 1 rfl) ?_
    refine lv_aload_n hx hb dX10_draw_14 rfl (lv_at hl 1 rfl) ?_
    refine lv_iload_n hx hb dX10_draw_15 rfl (lv_at hl 2 rfl) ?_
    refine lv_iload_n hx hb dX10_draw_16 rfl (lv_at hl 3 rfl) ?_
    refine lv_iload hx hb dX10_draw_17 (lv_at hl 0 rfl) ?_
    refine jif_eq (tgt := 29) hx hb dX10_draw_19 (by decide) (fun cq2_ => ?_) (fun cq2_ => absurd cq2_ (by decide))
    refine lv_iload_n hx hb dX10_draw_29 rfl (lv_at hl 4 rfl) ?_
    refine lv_iload hx hb dX10_draw_30 (lv_at hl 0 rfl) ?_
    refine lv_iload hx hb dX10_draw_32 (lv_at hl 5 rfl) ?_
    refine lv_iload hx hb dX10_draw_34 (lv_at hl 6 rfl) ?_
    refine goI hK hH (runV (As := [.int dr, .int de, .int pe, .int 0, .int su, .int dy]) (rest := [.ref h]) hC hK hH (c_X10_draws hc_h hc_al hfi) mlX10_112 (rcvM hK hH hc_h rfl) ⟨⟨Nat.le_of_ble_eq_true rfl, Nat.le_of_ble_eq_true rfl⟩, Nat.le_of_ble_eq_true rfl, Nat.le_of_ble_eq_true rfl⟩ rfl hl.1 rfl (Nat.le_of_ble_eq_true rfl) dX10_draw_36) (fun rq5_ Mq3_ Tq4_ Hq_ lcq_ hP hz hH => ?_)
    try dsimp only at hP
    obtain ⟨gq8_, h_gq8_, (⟨cq6_, rfl, hx_al⟩ | ⟨cq7_, rfl, hx_al⟩), eT, hfr⟩ := hP
    · skip
      have eT := eT.symm; subst eT
      have hc_h : Mq3_ h = some (.inr (8, [.ref al, .ref mt, .ref ii, .int 0, .int (-1), .ref pa, .int 0, .int 0, .int 0, .int 0, .int 0, .long 0, .int 0, .ref li])) := (hfr h n_h_al).trans hc_h
      have hc_al : Mq3_ al = some (.inl (kA 0, 7506, .inl gq8_)) := hx_al
      have hF : ∀ q, q ≠ al → Mq3_ q = M q := fun q h0 => (hfr q h0).trans (hF q h0)
      have cq6_ : 0 ≤ dr.toInt ∧ dr.toInt ≤ 7 ∧ 0 ≤ de.toInt ∧ de.toInt ≤ 7 ∧ 0 ≤ pe.toInt ∧ pe.toInt ≤ 7 ∧ 1 ≤ su.toInt ∧ su.toInt ≤ 999 ∧ 0 ≤ dy.toInt ∧ dy.toInt ≤ 99 := cq6_
      have o_gq8_ : gq8_ 1 = 1 := h_gq8_ cq6_
      refine goI hK hH (runV (As := [.int 0]) (rest := []) hC hK hH (c_X10_told hc_h hc_al) mlX10_97 (rcvM hK hH hc_h rfl) ⟨⟨Nat.le_of_ble_eq_true rfl, Nat.le_of_ble_eq_true rfl⟩, Nat.le_of_ble_eq_true rfl, Nat.le_of_ble_eq_true rfl⟩ rfl hl.1 rfl (Nat.le_of_ble_eq_true rfl) dX10_draw_39) (fun rq11_ Mq9_ Tq10_ Hq_ lcq_ hP hz hH => ?_)
      try dsimp only at hP
      obtain ⟨gq12_, h_gq12_, (⟨rfl, hx_al⟩), eT, hfr⟩ := hP
      have eT := eT.symm; subst eT
      have hc_h : Mq9_ h = some (.inr (8, [.ref al, .ref mt, .ref ii, .int 0, .int (-1), .ref pa, .int 0, .int 0, .int 0, .int 0, .int 0, .long 0, .int 0, .ref li])) := (hfr h n_h_al).trans hc_h
      have hc_al : Mq9_ al = some (.inl (kA 0, 7506, .inl gq12_)) := hx_al
      have hF : ∀ q, q ≠ al → Mq9_ q = M q := fun q h0 => (hfr q h0).trans (hF q h0)
      refine lv_istore (lv' := [(7, .int 0), (6, .int 0), (0, .ref h), (1, .int dr), (2, .int de), (3, .int pe), (4, .int su), (5, .int dy)]) hx hb dX10_draw_42 hl (by decide) rfl (fun ls hl => ?_)
      refine lv_iload hx hb dX10_draw_44 (lv_at hl 0 rfl) ?_
      refine jif_le (tgt := 55) hx hb dX10_draw_46 (by decide) (fun cq13_ => ?_) (fun cq13_ => absurd cq13_ (by decide))
      refine lv_aload_n hx hb dX10_draw_55 rfl (lv_at hl 2 rfl) ?_
      refine xg hC hK hH flX10_7 hc_h rfl dX10_draw_56 ?_
      refine lv_iconst (v := 1) hx hb dX10_draw_59 (by decide) ?_
      refine xild hC hK hH hc_al (iIn (by decide) (by decide)) dX10_draw_60 ?_
      refine lv_cst (v := 1) ((h_gq12_ _ (by decide)).trans o_gq8_) ?_
      refine lv_iconst (v := 1) hx hb dX10_draw_61 (by decide) ?_
      refine lv_isub hx hb dX10_draw_62 ?_
      refine lv_cst (v := 0) (by decide) ?_
      exact ret_i hC hr hlk hK hH (⟨Or.inl (⟨by omega, rfl⟩), rfl, hF⟩) (Nat.le_of_ble_eq_true rfl) (Nat.le_of_ble_eq_true rfl) dX10_draw_63
    · skip
      have eT := eT.symm; subst eT
      have hc_h : Mq3_ h = some (.inr (8, [.ref al, .ref mt, .ref ii, .int 0, .int (-1), .ref pa, .int 0, .int 0, .int 0, .int 0, .int 0, .long 0, .int 0, .ref li])) := (hfr h n_h_al).trans hc_h
      have hc_al : Mq3_ al = some (.inl (kA 0, 7506, .inl gq8_)) := hx_al
      have hF : ∀ q, q ≠ al → Mq3_ q = M q := fun q h0 => (hfr q h0).trans (hF q h0)
      have cq7_ : ¬ (0 ≤ dr.toInt ∧ dr.toInt ≤ 7 ∧ 0 ≤ de.toInt ∧ de.toInt ≤ 7 ∧ 0 ≤ pe.toInt ∧ pe.toInt ≤ 7 ∧ 1 ≤ su.toInt ∧ su.toInt ≤ 999 ∧ 0 ≤ dy.toInt ∧ dy.toInt ≤ 99) := cq7_
      refine goI hK hH (runV (As := [.int 30]) (rest := []) hC hK hH (c_X10_told hc_h hc_al) mlX10_97 (rcvM hK hH hc_h rfl) ⟨⟨Nat.le_of_ble_eq_true rfl, Nat.le_of_ble_eq_true rfl⟩, Nat.le_of_ble_eq_true rfl, Nat.le_of_ble_eq_true rfl⟩ rfl hl.1 rfl (Nat.le_of_ble_eq_true rfl) dX10_draw_39) (fun rq16_ Mq14_ Tq15_ Hq_ lcq_ hP hz hH => ?_)
      try dsimp only at hP
      obtain ⟨gq17_, h_gq17_, (⟨rfl, hx_al⟩), eT, hfr⟩ := hP
      have eT := eT.symm; subst eT
      have hc_h : Mq14_ h = some (.inr (8, [.ref al, .ref mt, .ref ii, .int 0, .int (-1), .ref pa, .int 0, .int 0, .int 0, .int 0, .int 0, .long 0, .int 0, .ref li])) := (hfr h n_h_al).trans hc_h
      have hc_al : Mq14_ al = some (.inl (kA 0, 7506, .inl gq17_)) := hx_al
      have hF : ∀ q, q ≠ al → Mq14_ q = M q := fun q h0 => (hfr q h0).trans (hF q h0)
      refine lv_istore (lv' := [(7, .int 30), (6, .int 0), (0, .ref h), (1, .int dr), (2, .int de), (3, .int pe), (4, .int su), (5, .int dy)]) hx hb dX10_draw_42 hl (by decide) rfl (fun ls hl => ?_)
      refine lv_iload hx hb dX10_draw_44 (lv_at hl 0 rfl) ?_
      refine jif_le (tgt := 55) hx hb dX10_draw_46 (by decide) (fun cq18_ => absurd cq18_ (by decide)) (fun cq18_ => ?_)
      refine lv_iload hx hb dX10_draw_49 (lv_at hl 0 rfl) ?_
      refine lv_ineg hx hb dX10_draw_51 ?_
      refine lv_cst (v := -30) (by decide) ?_
      refine lv_goto (tgt := 63) hx hb dX10_draw_52 (by decide) ?_
      exact ret_i hC hr hlk hK hH (⟨Or.inr (⟨by omega, rfl⟩), rfl, hF⟩) (Nat.le_of_ble_eq_true rfl) (Nat.le_of_ble_eq_true rfl) dX10_draw_63
  · skip
    have cq1_ : 9 < pe.toInt := cq1_
    refine lv_iconst (v := 1) hx hb dX10_draw_6 (by decide) ?_
    refine lv_goto (tgt := 11) hx hb dX10_draw_7 (by decide) ?_
    refine lv_istore (lv' := [(6, .int 1), (0, .ref h), (1, .int dr), (2, .int de), (3, .int pe), (4, .int su), (5, .int dy)]) hx hb dX10_draw_11 hl (by decide) rfl (fun ls hl => ?_)
    refine lv_aload_n hx hb dX10_draw_13 rfl (lv_at hl 1 rfl) ?_
    refine lv_aload_n hx hb dX10_draw_14 rfl (lv_at hl 1 rfl) ?_
    refine lv_iload_n hx hb dX10_draw_15 rfl (lv_at hl 2 rfl) ?_
    refine lv_iload_n hx hb dX10_draw_16 rfl (lv_at hl 3 rfl) ?_
    refine lv_iload hx hb dX10_draw_17 (lv_at hl 0 rfl) ?_
    refine jif_eq (tgt := 29) hx hb dX10_draw_19 (by decide) (fun cq19_ => absurd cq19_ (by decide)) (fun cq19_ => ?_)
    refine lv_iload_n hx hb dX10_draw_22 rfl (lv_at hl 4 rfl) ?_
    refine lv_bipush (v := 10) hx hb dX10_draw_23 (by decide) ?_
    refine lv_isub hx hb dX10_draw_25 ?_
    refine lv_topi (fun zq20_ e_zq20_ => ?_)
    have h_zq20_ : zq20_.toInt = pe.toInt - 10 := by rw [e_zq20_, iSub (by have := iRg pe; have : (10 : Int32).toInt = 10 := rfl; omega) (by have := iRg pe; have : (10 : Int32).toInt = 10 := rfl; omega)]; rfl
    refine lv_goto (tgt := 30) hx hb dX10_draw_26 (by decide) ?_
    refine lv_iload hx hb dX10_draw_30 (lv_at hl 0 rfl) ?_
    refine lv_iload hx hb dX10_draw_32 (lv_at hl 5 rfl) ?_
    refine lv_iload hx hb dX10_draw_34 (lv_at hl 6 rfl) ?_
    refine goI hK hH (runV (As := [.int dr, .int de, .int zq20_, .int 1, .int su, .int dy]) (rest := [.ref h]) hC hK hH (c_X10_draws hc_h hc_al hfi) mlX10_112 (rcvM hK hH hc_h rfl) ⟨⟨Nat.le_of_ble_eq_true rfl, Nat.le_of_ble_eq_true rfl⟩, Nat.le_of_ble_eq_true rfl, Nat.le_of_ble_eq_true rfl⟩ rfl hl.1 rfl (Nat.le_of_ble_eq_true rfl) dX10_draw_36) (fun rq23_ Mq21_ Tq22_ Hq_ lcq_ hP hz hH => ?_)
    try dsimp only at hP
    obtain ⟨gq26_, h_gq26_, (⟨cq24_, rfl, hx_al⟩ | ⟨cq25_, rfl, hx_al⟩), eT, hfr⟩ := hP
    · skip
      have eT := eT.symm; subst eT
      have hc_h : Mq21_ h = some (.inr (8, [.ref al, .ref mt, .ref ii, .int 0, .int (-1), .ref pa, .int 0, .int 0, .int 0, .int 0, .int 0, .long 0, .int 0, .ref li])) := (hfr h n_h_al).trans hc_h
      have hc_al : Mq21_ al = some (.inl (kA 0, 7506, .inl gq26_)) := hx_al
      have hF : ∀ q, q ≠ al → Mq21_ q = M q := fun q h0 => (hfr q h0).trans (hF q h0)
      have cq24_ : 0 ≤ dr.toInt ∧ dr.toInt ≤ 7 ∧ 0 ≤ de.toInt ∧ de.toInt ≤ 7 ∧ 0 ≤ zq20_.toInt ∧ zq20_.toInt ≤ 7 ∧ 1 ≤ su.toInt ∧ su.toInt ≤ 999 ∧ 0 ≤ dy.toInt ∧ dy.toInt ≤ 99 := cq24_
      have o_gq26_ : gq26_ 1 = 1 := h_gq26_ cq24_
      refine goI hK hH (runV (As := [.int 0]) (rest := []) hC hK hH (c_X10_told hc_h hc_al) mlX10_97 (rcvM hK hH hc_h rfl) ⟨⟨Nat.le_of_ble_eq_true rfl, Nat.le_of_ble_eq_true rfl⟩, Nat.le_of_ble_eq_true rfl, Nat.le_of_ble_eq_true rfl⟩ rfl hl.1 rfl (Nat.le_of_ble_eq_true rfl) dX10_draw_39) (fun rq29_ Mq27_ Tq28_ Hq_ lcq_ hP hz hH => ?_)
      try dsimp only at hP
      obtain ⟨gq30_, h_gq30_, (⟨rfl, hx_al⟩), eT, hfr⟩ := hP
      have eT := eT.symm; subst eT
      have hc_h : Mq27_ h = some (.inr (8, [.ref al, .ref mt, .ref ii, .int 0, .int (-1), .ref pa, .int 0, .int 0, .int 0, .int 0, .int 0, .long 0, .int 0, .ref li])) := (hfr h n_h_al).trans hc_h
      have hc_al : Mq27_ al = some (.inl (kA 0, 7506, .inl gq30_)) := hx_al
      have hF : ∀ q, q ≠ al → Mq27_ q = M q := fun q h0 => (hfr q h0).trans (hF q h0)
      refine lv_istore (lv' := [(7, .int 0), (6, .int 1), (0, .ref h), (1, .int dr), (2, .int de), (3, .int pe), (4, .int su), (5, .int dy)]) hx hb dX10_draw_42 hl (by decide) rfl (fun ls hl => ?_)
      refine lv_iload hx hb dX10_draw_44 (lv_at hl 0 rfl) ?_
      refine jif_le (tgt := 55) hx hb dX10_draw_46 (by decide) (fun cq31_ => ?_) (fun cq31_ => absurd cq31_ (by decide))
      refine lv_aload_n hx hb dX10_draw_55 rfl (lv_at hl 2 rfl) ?_
      refine xg hC hK hH flX10_7 hc_h rfl dX10_draw_56 ?_
      refine lv_iconst (v := 1) hx hb dX10_draw_59 (by decide) ?_
      refine xild hC hK hH hc_al (iIn (by decide) (by decide)) dX10_draw_60 ?_
      refine lv_cst (v := 1) ((h_gq30_ _ (by decide)).trans o_gq26_) ?_
      refine lv_iconst (v := 1) hx hb dX10_draw_61 (by decide) ?_
      refine lv_isub hx hb dX10_draw_62 ?_
      refine lv_cst (v := 0) (by decide) ?_
      subst e_zq20_
      exact ret_i hC hr hlk hK hH (⟨Or.inl (⟨by omega, rfl⟩), rfl, hF⟩) (Nat.le_of_ble_eq_true rfl) (Nat.le_of_ble_eq_true rfl) dX10_draw_63
    · skip
      have eT := eT.symm; subst eT
      have hc_h : Mq21_ h = some (.inr (8, [.ref al, .ref mt, .ref ii, .int 0, .int (-1), .ref pa, .int 0, .int 0, .int 0, .int 0, .int 0, .long 0, .int 0, .ref li])) := (hfr h n_h_al).trans hc_h
      have hc_al : Mq21_ al = some (.inl (kA 0, 7506, .inl gq26_)) := hx_al
      have hF : ∀ q, q ≠ al → Mq21_ q = M q := fun q h0 => (hfr q h0).trans (hF q h0)
      have cq25_ : ¬ (0 ≤ dr.toInt ∧ dr.toInt ≤ 7 ∧ 0 ≤ de.toInt ∧ de.toInt ≤ 7 ∧ 0 ≤ zq20_.toInt ∧ zq20_.toInt ≤ 7 ∧ 1 ≤ su.toInt ∧ su.toInt ≤ 999 ∧ 0 ≤ dy.toInt ∧ dy.toInt ≤ 99) := cq25_
      refine goI hK hH (runV (As := [.int 30]) (rest := []) hC hK hH (c_X10_told hc_h hc_al) mlX10_97 (rcvM hK hH hc_h rfl) ⟨⟨Nat.le_of_ble_eq_true rfl, Nat.le_of_ble_eq_true rfl⟩, Nat.le_of_ble_eq_true rfl, Nat.le_of_ble_eq_true rfl⟩ rfl hl.1 rfl (Nat.le_of_ble_eq_true rfl) dX10_draw_39) (fun rq34_ Mq32_ Tq33_ Hq_ lcq_ hP hz hH => ?_)
      try dsimp only at hP
      obtain ⟨gq35_, h_gq35_, (⟨rfl, hx_al⟩), eT, hfr⟩ := hP
      have eT := eT.symm; subst eT
      have hc_h : Mq32_ h = some (.inr (8, [.ref al, .ref mt, .ref ii, .int 0, .int (-1), .ref pa, .int 0, .int 0, .int 0, .int 0, .int 0, .long 0, .int 0, .ref li])) := (hfr h n_h_al).trans hc_h
      have hc_al : Mq32_ al = some (.inl (kA 0, 7506, .inl gq35_)) := hx_al
      have hF : ∀ q, q ≠ al → Mq32_ q = M q := fun q h0 => (hfr q h0).trans (hF q h0)
      refine lv_istore (lv' := [(7, .int 30), (6, .int 1), (0, .ref h), (1, .int dr), (2, .int de), (3, .int pe), (4, .int su), (5, .int dy)]) hx hb dX10_draw_42 hl (by decide) rfl (fun ls hl => ?_)
      refine lv_iload hx hb dX10_draw_44 (lv_at hl 0 rfl) ?_
      refine jif_le (tgt := 55) hx hb dX10_draw_46 (by decide) (fun cq36_ => absurd cq36_ (by decide)) (fun cq36_ => ?_)
      refine lv_iload hx hb dX10_draw_49 (lv_at hl 0 rfl) ?_
      refine lv_ineg hx hb dX10_draw_51 ?_
      refine lv_cst (v := -30) (by decide) ?_
      refine lv_goto (tgt := 63) hx hb dX10_draw_52 (by decide) ?_
      subst e_zq20_
      exact ret_i hC hr hlk hK hH (⟨Or.inr (⟨by omega, rfl⟩), rfl, hF⟩) (Nat.le_of_ble_eq_true rfl) (Nat.le_of_ble_eq_true rfl) dX10_draw_63
set_option maxHeartbeats 4000000 in
set_option maxRecDepth 100000 in
theorem c_X10_byteAt {l : Launch} {D : va_G} {kA : Nat → ClassId} {M : mM} {T : mT} {sz : Nat} {h al mt ii pa li : Nat} {ta fp nx tk pl ln wr : Int32} {va : Int64} (hc_h : M h = some (.inr (8, [.ref al, .ref mt, .ref ii, .int ta, .int fp, .ref pa, .int 0, .int nx, .int tk, .int pl, .int ln, .long va, .int wr, .ref li]))) : mCi l yX10_byteAt cX10_byteAt 2 (some .int) 0 0 0 D kA M T sz [.ref h, .int 0] (fun r u => (r = -1) ∧ u.2 = T ∧ u.1 = M) := by
  unfold mCi
  refine start_W (by decide) (Nat.le_of_ble_eq_true rfl) ?_
  intro p e s m below meth c ls hC hr hlk hnm hK hH hsz hl
  have hx := hC.1
  have hb := hC.2.1
  have hl : lv_has ls 2 [(0, .ref h), (1, .int 0)] := hl
  refine lv_iload_n hx hb dX10_byteAt_0 rfl (lv_at hl 1 rfl) ?_
  refine lv_aload_n hx hb dX10_byteAt_1 rfl (lv_at hl 0 rfl) ?_
  refine xg hC hK hH flX10_201 hc_h rfl dX10_byteAt_2 ?_
  refine jic_ge (tgt := 17) hx hb dX10_byteAt_5 (by decide) (fun cq1_ => ?_) (fun cq1_ => absurd cq1_ (by decide))
  refine lv_iconst (v := -1) hx hb dX10_byteAt_17 (by decide) ?_
  exact ret_i hC hr hlk hK hH (⟨rfl, rfl, rfl⟩) (Nat.le_of_ble_eq_true rfl) (Nat.le_of_ble_eq_true rfl) dX10_byteAt_18
set_option maxHeartbeats 4000000 in
set_option maxRecDepth 100000 in
theorem c_X10_takes {l : Launch} {D : va_G} {kA : Nat → ClassId} {M : mM} {T : mT} {sz : Nat} {h al mt ii pa li : Nat} (hc_h : M h = some (.inr (8, [.ref al, .ref mt, .ref ii, .int 0, .int (-1), .ref pa, .int 0, .int 0, .int 0, .int 0, .int 0, .long 0, .int 0, .ref li]))) : mCv l yX10_takes cX10_takes 2 1 0 0 D kA M T sz [.ref h] (fun u => (u.1 h = some (.inr (8, [.ref al, .ref mt, .ref ii, .int 0, .int (-1), .ref pa, .int 0, .int 0, .int 0, .int 0, .int 0, .long 0, .int 0, .ref li]))) ∧ u.2 = T ∧ (∀ q, q ≠ h → u.1 q = M q)) := by
  unfold mCv
  refine start_W (by decide) (Nat.le_of_ble_eq_true rfl) ?_
  intro p e s m below meth c ls hC hr hlk hnm hK hH hsz hl
  have hx := hC.1
  have hb := hC.2.1
  have hl : lv_has ls 2 [(0, .ref h)] := hl
  have hF : ∀ q, q ≠ h → M q = M q := fun q _ => rfl
  refine lv_aload_n hx hb dX10_takes_0 rfl (lv_at hl 0 rfl) ?_
  refine lv_aload_n hx hb dX10_takes_1 rfl (lv_at hl 0 rfl) ?_
  refine xg hC hK hH flX10_204 hc_h rfl dX10_takes_2 ?_
  refine goI hK hH (runV (As := [.int 0]) (rest := []) hC hK hH (c_X10_byteAt hc_h) mlX10_207 (rcvM hK hH hc_h rfl) ⟨⟨Nat.le_of_ble_eq_true rfl, Nat.le_of_ble_eq_true rfl⟩, Nat.le_of_ble_eq_true rfl, Nat.le_of_ble_eq_true rfl⟩ rfl hl.1 rfl (Nat.le_of_ble_eq_true rfl) dX10_takes_5) (fun rq3_ Mq1_ Tq2_ Hq_ lcq_ hP hz hH => ?_)
  try dsimp only at hP
  obtain ⟨(rfl), eT, eM⟩ := hP
  have eT := eT.symm; subst eT
  have eM := eM.symm; subst eM
  refine lv_bipush (v := 32) hx hb dX10_takes_8 (by decide) ?_
  refine jic_eq (tgt := 26) hx hb dX10_takes_10 (by decide) (fun cq4_ => absurd cq4_ (by decide)) (fun cq4_ => ?_)
  refine lv_aload_n hx hb dX10_takes_13 rfl (lv_at hl 0 rfl) ?_
  refine lv_aload_n hx hb dX10_takes_14 rfl (lv_at hl 0 rfl) ?_
  refine xg hC hK hH flX10_204 hc_h rfl dX10_takes_15 ?_
  refine goI hK hH (runV (As := [.int 0]) (rest := []) hC hK hH (c_X10_byteAt hc_h) mlX10_207 (rcvM hK hH hc_h rfl) ⟨⟨Nat.le_of_ble_eq_true rfl, Nat.le_of_ble_eq_true rfl⟩, Nat.le_of_ble_eq_true rfl, Nat.le_of_ble_eq_true rfl⟩ rfl hl.1 rfl (Nat.le_of_ble_eq_true rfl) dX10_takes_18) (fun rq7_ Mq5_ Tq6_ Hq_ lcq_ hP hz hH => ?_)
  try dsimp only at hP
  obtain ⟨(rfl), eT, eM⟩ := hP
  have eT := eT.symm; subst eT
  have eM := eM.symm; subst eM
  refine lv_bipush (v := 10) hx hb dX10_takes_21 (by decide) ?_
  refine jic_ne (tgt := 39) hx hb dX10_takes_23 (by decide) (fun cq8_ => ?_) (fun cq8_ => absurd cq8_ (by decide))
  refine lv_aload_n hx hb dX10_takes_39 rfl (lv_at hl 0 rfl) ?_
  refine lv_aload_n hx hb dX10_takes_40 rfl (lv_at hl 0 rfl) ?_
  refine xg hC hK hH flX10_204 hc_h rfl dX10_takes_41 ?_
  refine yp (v := .int 0) hC hK hH flX10_210 hc_h rfl rfl (Nat.le_of_ble_eq_true rfl) dX10_takes_44 (fun Hq_ lcq_ Mq9_ hc_h hfr hH => ?_)
  have hc_h : Mq9_ h = some (.inr (8, [.ref al, .ref mt, .ref ii, .int 0, .int (-1), .ref pa, .int 0, .int 0, .int 0, .int 0, .int 0, .long 0, .int 0, .ref li])) := hc_h
  have hF : ∀ q, q ≠ h → Mq9_ q = M q := fun q h0 => (hfr q h0).trans (hF q h0)
  refine lv_aload_n hx hb dX10_takes_47 rfl (lv_at hl 0 rfl) ?_
  refine lv_aload_n hx hb dX10_takes_48 rfl (lv_at hl 0 rfl) ?_
  refine xg hC hK hH flX10_204 hc_h rfl dX10_takes_49 ?_
  refine goI hK hH (runV (As := [.int 0]) (rest := []) hC hK hH (c_X10_byteAt hc_h) mlX10_207 (rcvM hK hH hc_h rfl) ⟨⟨Nat.le_of_ble_eq_true rfl, Nat.le_of_ble_eq_true rfl⟩, Nat.le_of_ble_eq_true rfl, Nat.le_of_ble_eq_true rfl⟩ rfl hl.1 rfl (Nat.le_of_ble_eq_true rfl) dX10_takes_52) (fun rq12_ Mq10_ Tq11_ Hq_ lcq_ hP hz hH => ?_)
  try dsimp only at hP
  obtain ⟨(rfl), eT, eM⟩ := hP
  have eT := eT.symm; subst eT
  have eM := eM.symm; subst eM
  refine lv_istore_n (lv' := [(1, .int (-1)), (0, .ref h)]) hx hb dX10_takes_55 rfl hl (by decide) rfl (fun ls hl => ?_)
  refine lv_aload_n hx hb dX10_takes_56 rfl (lv_at hl 1 rfl) ?_
  refine lv_lconst (v := 0) hx hb dX10_takes_57 (by decide) ?_
  refine yp (v := .long 0) hC hK hH flX10_213 hc_h rfl rfl (Nat.le_of_ble_eq_true rfl) dX10_takes_58 (fun Hq_ lcq_ Mq13_ hc_h hfr hH => ?_)
  have hc_h : Mq13_ h = some (.inr (8, [.ref al, .ref mt, .ref ii, .int 0, .int (-1), .ref pa, .int 0, .int 0, .int 0, .int 0, .int 0, .long 0, .int 0, .ref li])) := hc_h
  have hF : ∀ q, q ≠ h → Mq13_ q = M q := fun q h0 => (hfr q h0).trans (hF q h0)
  refine lv_iload_n hx hb dX10_takes_61 rfl (lv_at hl 0 rfl) ?_
  refine jif_ge (tgt := 73) hx hb dX10_takes_62 (by decide) (fun cq14_ => absurd cq14_ (by decide)) (fun cq14_ => ?_)
  refine lv_aload_n hx hb dX10_takes_65 rfl (lv_at hl 1 rfl) ?_
  refine lv_iconst (v := 0) hx hb dX10_takes_66 (by decide) ?_
  refine yp (v := .int 0) hC hK hH flX10_217 hc_h rfl rfl (Nat.le_of_ble_eq_true rfl) dX10_takes_67 (fun Hq_ lcq_ Mq15_ hc_h hfr hH => ?_)
  have hc_h : Mq15_ h = some (.inr (8, [.ref al, .ref mt, .ref ii, .int 0, .int (-1), .ref pa, .int 0, .int 0, .int 0, .int 0, .int 0, .long 0, .int 0, .ref li])) := hc_h
  have hF : ∀ q, q ≠ h → Mq15_ q = M q := fun q h0 => (hfr q h0).trans (hF q h0)
  refine lv_goto (tgt := 291) hx hb dX10_takes_70 (by decide) ?_
  exact ret_v hC hr hlk hK hH (⟨hc_h, rfl, hF⟩) (Nat.le_of_ble_eq_true rfl) (Nat.le_of_ble_eq_true rfl) dX10_takes_291
set_option maxHeartbeats 4000000 in
set_option maxRecDepth 100000 in
theorem c_X10_text {l : Launch} {D : va_G} {kA : Nat → ClassId} {M : mM} {T : mT} {sz : Nat} {h al mt ii pa li : Nat} {f : Nat → Int32} {an : Int32} (hc_h : M h = some (.inr (8, [.ref al, .ref mt, .ref ii, .int 0, .int (-1), .ref pa, .int 0, .int 0, .int 0, .int 0, .int 0, .long 0, .int 0, .ref li]))) (hc_al : M al = some (.inl (kA 0, 7506, .inl f))) : mCi l yX10_text cX10_text 3 (some .int) 2 0 0 D kA M T sz [.ref h, .int an] (fun r u => (r = 0) ∧ u.2 = T ∧ (∀ q, q ≠ h → q ≠ al → u.1 q = M q)) := by
  unfold mCi
  refine start_W (by decide) (Nat.le_of_ble_eq_true rfl) ?_
  intro p e s m below meth c ls hC hr hlk hnm hK hH hsz hl
  have hx := hC.1
  have hb := hC.2.1
  have hl : lv_has ls 3 [(0, .ref h), (1, .int an)] := hl
  have hF : ∀ q, q ≠ h → q ≠ al → M q = M q := fun q _ _ => rfl
  have n_h_al : h ≠ al := neM hc_h hc_al (by simp)
  have n_al_h : al ≠ h := neM hc_al hc_h (by simp)
  refine lv_aload_n hx hb dX10_text_0 rfl (lv_at hl 0 rfl) ?_
  refine lv_aload_n hx hb dX10_text_1 rfl (lv_at hl 0 rfl) ?_
  refine xg hC hK hH flX10_180 hc_h rfl dX10_text_2 ?_
  refine yp (v := .int 0) hC hK hH flX10_201 hc_h rfl rfl (Nat.le_of_ble_eq_true rfl) dX10_text_5 (fun Hq_ lcq_ Mq1_ hc_h hfr hH => ?_)
  have hc_h : Mq1_ h = some (.inr (8, [.ref al, .ref mt, .ref ii, .int 0, .int (-1), .ref pa, .int 0, .int 0, .int 0, .int 0, .int 0, .long 0, .int 0, .ref li])) := hc_h
  have hc_al : Mq1_ al = some (.inl (kA 0, 7506, .inl f)) := (hfr al n_al_h).trans hc_al
  have hF : ∀ q, q ≠ h → q ≠ al → Mq1_ q = M q := fun q h0 h1 => (hfr q h0).trans (hF q h0 h1)
  refine lv_aload_n hx hb dX10_text_8 rfl (lv_at hl 0 rfl) ?_
  refine lv_iconst (v := 0) hx hb dX10_text_9 (by decide) ?_
  refine yp (v := .int 0) hC hK hH flX10_180 hc_h rfl rfl (Nat.le_of_ble_eq_true rfl) dX10_text_10 (fun Hq_ lcq_ Mq2_ hc_h hfr hH => ?_)
  have hc_h : Mq2_ h = some (.inr (8, [.ref al, .ref mt, .ref ii, .int 0, .int (-1), .ref pa, .int 0, .int 0, .int 0, .int 0, .int 0, .long 0, .int 0, .ref li])) := hc_h
  have hc_al : Mq2_ al = some (.inl (kA 0, 7506, .inl f)) := (hfr al n_al_h).trans hc_al
  have hF : ∀ q, q ≠ h → q ≠ al → Mq2_ q = M q := fun q h0 h1 => (hfr q h0).trans (hF q h0 h1)
  refine lv_aload_n hx hb dX10_text_13 rfl (lv_at hl 0 rfl) ?_
  refine lv_iconst (v := -1) hx hb dX10_text_14 (by decide) ?_
  refine yp (v := .int (-1)) hC hK hH flX10_20 hc_h rfl rfl (Nat.le_of_ble_eq_true rfl) dX10_text_15 (fun Hq_ lcq_ Mq3_ hc_h hfr hH => ?_)
  have hc_h : Mq3_ h = some (.inr (8, [.ref al, .ref mt, .ref ii, .int 0, .int (-1), .ref pa, .int 0, .int 0, .int 0, .int 0, .int 0, .long 0, .int 0, .ref li])) := hc_h
  have hc_al : Mq3_ al = some (.inl (kA 0, 7506, .inl f)) := (hfr al n_al_h).trans hc_al
  have hF : ∀ q, q ≠ h → q ≠ al → Mq3_ q = M q := fun q h0 h1 => (hfr q h0).trans (hF q h0 h1)
  refine lv_aload_n hx hb dX10_text_18 rfl (lv_at hl 0 rfl) ?_
  refine lv_iconst (v := 0) hx hb dX10_text_19 (by decide) ?_
  refine yp (v := .int 0) hC hK hH flX10_234 hc_h rfl rfl (Nat.le_of_ble_eq_true rfl) dX10_text_20 (fun Hq_ lcq_ Mq4_ hc_h hfr hH => ?_)
  have hc_h : Mq4_ h = some (.inr (8, [.ref al, .ref mt, .ref ii, .int 0, .int (-1), .ref pa, .int 0, .int 0, .int 0, .int 0, .int 0, .long 0, .int 0, .ref li])) := hc_h
  have hc_al : Mq4_ al = some (.inl (kA 0, 7506, .inl f)) := (hfr al n_al_h).trans hc_al
  have hF : ∀ q, q ≠ h → q ≠ al → Mq4_ q = M q := fun q h0 h1 => (hfr q h0).trans (hF q h0 h1)
  refine lv_aload_n hx hb dX10_text_23 rfl (lv_at hl 0 rfl) ?_
  refine lv_iconst (v := 0) hx hb dX10_text_24 (by decide) ?_
  refine yp (v := .int 0) hC hK hH flX10_204 hc_h rfl rfl (Nat.le_of_ble_eq_true rfl) dX10_text_25 (fun Hq_ lcq_ Mq5_ hc_h hfr hH => ?_)
  have hc_h : Mq5_ h = some (.inr (8, [.ref al, .ref mt, .ref ii, .int 0, .int (-1), .ref pa, .int 0, .int 0, .int 0, .int 0, .int 0, .long 0, .int 0, .ref li])) := hc_h
  have hc_al : Mq5_ al = some (.inl (kA 0, 7506, .inl f)) := (hfr al n_al_h).trans hc_al
  have hF : ∀ q, q ≠ h → q ≠ al → Mq5_ q = M q := fun q h0 h1 => (hfr q h0).trans (hF q h0 h1)
  refine lv_aload_n hx hb dX10_text_28 rfl (lv_at hl 0 rfl) ?_
  refine lv_iconst (v := 0) hx hb dX10_text_29 (by decide) ?_
  refine yp (v := .int 0) hC hK hH flX10_245 hc_h rfl rfl (Nat.le_of_ble_eq_true rfl) dX10_text_30 (fun Hq_ lcq_ Mq6_ hc_h hfr hH => ?_)
  have hc_h : Mq6_ h = some (.inr (8, [.ref al, .ref mt, .ref ii, .int 0, .int (-1), .ref pa, .int 0, .int 0, .int 0, .int 0, .int 0, .long 0, .int 0, .ref li])) := hc_h
  have hc_al : Mq6_ al = some (.inl (kA 0, 7506, .inl f)) := (hfr al n_al_h).trans hc_al
  have hF : ∀ q, q ≠ h → q ≠ al → Mq6_ q = M q := fun q h0 h1 => (hfr q h0).trans (hF q h0 h1)
  refine lv_aload_n hx hb dX10_text_33 rfl (lv_at hl 0 rfl) ?_
  refine goV hK hH (runV (As := []) (rest := []) hC hK hH (c_X10_takes hc_h) mlX10_238 (rcvM hK hH hc_h rfl) ⟨⟨Nat.le_of_ble_eq_true rfl, Nat.le_of_ble_eq_true rfl⟩, Nat.le_of_ble_eq_true rfl, Nat.le_of_ble_eq_true rfl⟩ rfl hl.1 rfl (Nat.le_of_ble_eq_true rfl) dX10_text_34) (fun Mq7_ Tq8_ Hq_ lcq_ hP hz hH => ?_)
  try dsimp only at hP
  obtain ⟨(hx_h), eT, hfr⟩ := hP
  have eT := eT.symm; subst eT
  have hc_h : Mq7_ h = some (.inr (8, [.ref al, .ref mt, .ref ii, .int 0, .int (-1), .ref pa, .int 0, .int 0, .int 0, .int 0, .int 0, .long 0, .int 0, .ref li])) := hx_h
  have hc_al : Mq7_ al = some (.inl (kA 0, 7506, .inl f)) := (hfr al n_al_h).trans hc_al
  have hF : ∀ q, q ≠ h → q ≠ al → Mq7_ q = M q := fun q h0 h1 => (hfr q h0).trans (hF q h0 h1)
  refine lv_aload_n hx hb dX10_text_37 rfl (lv_at hl 0 rfl) ?_
  refine xg hC hK hH flX10_234 hc_h rfl dX10_text_38 ?_
  refine jif_ne (tgt := 58) hx hb dX10_text_41 (by decide) (fun cq10_ => absurd cq10_ (by decide)) (fun cq10_ => ?_)
  refine lv_aload_n hx hb dX10_text_44 rfl (lv_at hl 0 rfl) ?_
  refine xg hC hK hH flX10_217 hc_h rfl dX10_text_45 ?_
  refine jif_eq (tgt := 58) hx hb dX10_text_48 (by decide) (fun cq11_ => ?_) (fun cq11_ => absurd cq11_ (by decide))
  refine lv_aload_n hx hb dX10_text_58 rfl (lv_at hl 0 rfl) ?_
  refine xg hC hK hH flX10_234 hc_h rfl dX10_text_59 ?_
  refine jif_eq (tgt := 67) hx hb dX10_text_62 (by decide) (fun cq12_ => ?_) (fun cq12_ => absurd cq12_ (by decide))
  refine lv_iload_n hx hb dX10_text_67 rfl (lv_at hl 1 rfl) ?_
  refine jif_eq (tgt := 75) hx hb dX10_text_68 (by decide) (fun cq13_ => ?_) (fun cq13_ => ?_)
  · skip
    have cq13_ : an.toInt = 0 := cq13_
    refine lv_iconst (v := 0) hx hb dX10_text_75 (by decide) ?_
    refine lv_istore_n (lv' := [(2, .int 0), (0, .ref h), (1, .int an)]) hx hb dX10_text_76 rfl hl (by decide) rfl (fun ls hl => ?_)
    refine lv_iload_n hx hb dX10_text_77 rfl (lv_at hl 0 rfl) ?_
    refine lv_aload_n hx hb dX10_text_78 rfl (lv_at hl 1 rfl) ?_
    refine xg hC hK hH flX10_245 hc_h rfl dX10_text_79 ?_
    refine jic_ge (tgt := 106) hx hb dX10_text_82 (by decide) (fun cq14_ => ?_) (fun cq14_ => absurd cq14_ (by decide))
    refine lv_iload_n hx hb dX10_text_106 rfl (lv_at hl 0 rfl) ?_
    exact ret_i hC hr hlk hK hH (⟨rfl, rfl, hF⟩) (Nat.le_of_ble_eq_true rfl) (Nat.le_of_ble_eq_true rfl) dX10_text_107
  · skip
    have cq13_ : an.toInt ≠ 0 := cq13_
    refine lv_aload_n hx hb dX10_text_71 rfl (lv_at hl 0 rfl) ?_
    refine goV hK hH (runV (As := []) (rest := []) hC hK hH (c_X10_begins hc_h hc_al) mlX10_30 (rcvM hK hH hc_h rfl) ⟨⟨Nat.le_of_ble_eq_true rfl, Nat.le_of_ble_eq_true rfl⟩, Nat.le_of_ble_eq_true rfl, Nat.le_of_ble_eq_true rfl⟩ rfl hl.1 rfl (Nat.le_of_ble_eq_true rfl) dX10_text_72) (fun Mq15_ Tq16_ Hq_ lcq_ hP hz hH => ?_)
    try dsimp only at hP
    obtain ⟨gq18_, h_gq18_, (hx_al), eT, hfr⟩ := hP
    have eT := eT.symm; subst eT
    have hc_h : Mq15_ h = some (.inr (8, [.ref al, .ref mt, .ref ii, .int 0, .int (-1), .ref pa, .int 0, .int 0, .int 0, .int 0, .int 0, .long 0, .int 0, .ref li])) := (hfr h n_h_al).trans hc_h
    have hc_al : Mq15_ al = some (.inl (kA 0, 7506, .inl gq18_)) := hx_al
    have hF : ∀ q, q ≠ h → q ≠ al → Mq15_ q = M q := fun q h0 h1 => (hfr q h1).trans (hF q h0 h1)
    refine lv_iconst (v := 0) hx hb dX10_text_75 (by decide) ?_
    refine lv_istore_n (lv' := [(2, .int 0), (0, .ref h), (1, .int an)]) hx hb dX10_text_76 rfl hl (by decide) rfl (fun ls hl => ?_)
    refine lv_iload_n hx hb dX10_text_77 rfl (lv_at hl 0 rfl) ?_
    refine lv_aload_n hx hb dX10_text_78 rfl (lv_at hl 1 rfl) ?_
    refine xg hC hK hH flX10_245 hc_h rfl dX10_text_79 ?_
    refine jic_ge (tgt := 106) hx hb dX10_text_82 (by decide) (fun cq19_ => ?_) (fun cq19_ => absurd cq19_ (by decide))
    refine lv_iload_n hx hb dX10_text_106 rfl (lv_at hl 0 rfl) ?_
    exact ret_i hC hr hlk hK hH (⟨rfl, rfl, hF⟩) (Nat.le_of_ble_eq_true rfl) (Nat.le_of_ble_eq_true rfl) dX10_text_107
set_option maxHeartbeats 4000000 in
set_option maxRecDepth 100000 in
theorem c_X10_copies {l : Launch} {D : va_G} {kA : Nat → ClassId} {M : mM} {T : mT} {sz : Nat} {h al mt ii pa li : Nat} {f : Nat → Int32} {to : Int32} (hc_h : M h = some (.inr (8, [.ref al, .ref mt, .ref ii, .int 0, .int (-1), .ref pa, .int 0, .int 0, .int 0, .int 0, .int 0, .long 0, .int 0, .ref li]))) (hc_al : M al = some (.inl (kA 0, 7506, .inl f))) (hto : 2280 ≤ to.toInt ∧ to.toInt ≤ 5764) : mCv l yX10_copies cX10_copies 4 0 0 0 D kA M T sz [.ref h, .int 0, .int to] (fun u => ∃ g : Nat → Int32, (True) ∧ (u.1 al = some (.inl (kA 0, 7506, .inl g))) ∧ u.2 = T ∧ (∀ q, q ≠ al → u.1 q = M q)) := by
  unfold mCv
  refine start_W (by decide) (Nat.le_of_ble_eq_true rfl) ?_
  intro p e s m below meth c ls hC hr hlk hnm hK hH hsz hl
  have hx := hC.1
  have hb := hC.2.1
  have hl : lv_has ls 4 [(0, .ref h), (1, .int 0), (2, .int to)] := hl
  have hF : ∀ q, q ≠ al → M q = M q := fun q _ => rfl
  have n_h_al : h ≠ al := neM hc_h hc_al (by simp)
  have n_al_h : al ≠ h := neM hc_al hc_h (by simp)
  refine lv_iconst (v := 0) hx hb dX10_copies_0 (by decide) ?_
  refine lv_istore_n (lv' := [(3, .int 0), (0, .ref h), (1, .int 0), (2, .int to)]) hx hb dX10_copies_1 rfl hl (by decide) rfl (fun ls hl => ?_)
  have loop : ∀ (n : Nat) (iq2_ : Int32) (Hq_ : Heap) (lcq_ : List Loc) (Mq3_ : mM) (ls : Array Slot) (fq1_ : Nat → Int32), iq2_.toInt + (n : Int) = 1140 → 0 ≤ iq2_.toInt → Mq3_ h = some (.inr (8, [.ref al, .ref mt, .ref ii, .int 0, .int (-1), .ref pa, .int 0, .int 0, .int 0, .int 0, .int 0, .long 0, .int 0, .ref li])) → Mq3_ al = some (.inl (kA 0, 7506, .inl fq1_)) → (∀ q, q ≠ al → Mq3_ q = M q) → mS D kA Mq3_ T (mA M T sz) s.heap Hq_ lcq_ → lv_has ls 4 [(3, .int iq2_), (0, .ref h), (1, .int 0), (2, .int to)] → W p l e (rmL 0 0 0) s m ([.ref h, .int 0, .int to] : List Value).toArray below meth c Hq_ lcq_ 0 0 (MQ below (va_Qv (fun u => ∃ g : Nat → Int32, (True) ∧ (u.1 al = some (.inl (kA 0, 7506, .inl g))) ∧ u.2 = T ∧ (∀ q, q ≠ al → u.1 q = M q)) (mB D kA M T sz) (mA M T sz)) ([.ref h, .int 0, .int to] : List Value).toArray s 0 0 (mA M T sz)) (F0 m 2 ls []) := by
    intro n
    induction n with
    | zero =>
      intro iq2_ Hq_ lcq_ Mq3_ ls fq1_ hi_iq2_ h0_iq2_ hc_h hc_al hF hH hl
      have hi_iq2_ : iq2_.toInt = 1140 := by omega
      refine lv_iload_n hx hb dX10_copies_2 rfl (lv_at hl 0 rfl) ?_
      refine lv_sipush (v := 1140) hx hb dX10_copies_3 (by decide) ?_
      refine jic_ge (tgt := 31) hx hb dX10_copies_6 (by decide) (fun cq4_ => ?_) (fun cq4_ => absurd cq4_ (by have := iRg iq2_; have : (1140 : Int32).toInt = 1140 := rfl; omega))
      have cq4_ : 1140 ≤ iq2_.toInt := cq4_
      exact ret_v hC hr hlk hK hH (⟨_, trivial, hc_al, rfl, hF⟩) (Nat.le_of_ble_eq_true rfl) (Nat.le_of_ble_eq_true rfl) dX10_copies_31
    | succ n ih =>
      intro iq2_ Hq_ lcq_ Mq3_ ls fq1_ hi_iq2_ h0_iq2_ hc_h hc_al hF hH hl
      have hj_iq2_ : iq2_.toInt ≤ 1139 := by omega
      refine lv_iload_n hx hb dX10_copies_2 rfl (lv_at hl 0 rfl) ?_
      refine lv_sipush (v := 1140) hx hb dX10_copies_3 (by decide) ?_
      refine jic_ge (tgt := 31) hx hb dX10_copies_6 (by decide) (fun cq5_ => absurd cq5_ (by have := iRg iq2_; have : (1140 : Int32).toInt = 1140 := rfl; omega)) (fun cq5_ => ?_)
      have cq5_ : iq2_.toInt < 1140 := cq5_
      refine lv_aload_n hx hb dX10_copies_9 rfl (lv_at hl 1 rfl) ?_
      refine xg hC hK hH flX10_7 hc_h rfl dX10_copies_10 ?_
      refine lv_iload_n hx hb dX10_copies_13 rfl (lv_at hl 3 rfl) ?_
      refine lv_iload_n hx hb dX10_copies_14 rfl (lv_at hl 0 rfl) ?_
      refine lv_iadd hx hb dX10_copies_15 ?_
      refine lv_topi (fun zq6_ e_zq6_ => ?_)
      have h_zq6_ : zq6_.toInt = to.toInt + iq2_.toInt := by rw [e_zq6_, iAdd (by have := iRg to; have := iRg iq2_; omega) (by have := iRg to; have := iRg iq2_; omega)]
      refine lv_aload_n hx hb dX10_copies_16 rfl (lv_at hl 1 rfl) ?_
      refine xg hC hK hH flX10_7 hc_h rfl dX10_copies_17 ?_
      refine lv_iload_n hx hb dX10_copies_20 rfl (lv_at hl 2 rfl) ?_
      refine lv_iload_n hx hb dX10_copies_21 rfl (lv_at hl 0 rfl) ?_
      refine lv_iadd hx hb dX10_copies_22 ?_
      refine lv_topi (fun zq7_ e_zq7_ => ?_)
      have h_zq7_ : zq7_.toInt = 0 + iq2_.toInt := by rw [e_zq7_, iAdd (by have : (0 : Int32).toInt = 0 := rfl; have := iRg iq2_; omega) (by have : (0 : Int32).toInt = 0 := rfl; have := iRg iq2_; omega)]; rfl
      refine xild hC hK hH hc_al (iIn (by omega) (by omega)) dX10_copies_23 ?_
      refine lv_topi (fun xq8_ e_xq8_ => ?_)
      refine yist (x := xq8_) hC hK hH hc_al (iIn (by omega) (by omega)) dX10_copies_24 (fun Hq_ lcq_ Mq9_ hc_al hfr hH => ?_)
      have hc_al : Mq9_ al = some (.inl (kA 0, 7506, .inl (upd fq1_ (Int32.toNatClampNeg zq6_) xq8_))) := hc_al
      have hc_h : Mq9_ h = some (.inr (8, [.ref al, .ref mt, .ref ii, .int 0, .int (-1), .ref pa, .int 0, .int 0, .int 0, .int 0, .int 0, .long 0, .int 0, .ref li])) := (hfr h n_h_al).trans hc_h
      have hF : ∀ q, q ≠ al → Mq9_ q = M q := fun q h0 => (hfr q h0).trans (hF q h0)
      obtain ⟨zq10_, e_zq10_⟩ : ∃ y : Int32, y = iq2_ + 1 := ⟨_, rfl⟩
      refine lv_iinc (v := zq10_) (lv' := [(3, .int zq10_), (0, .ref h), (1, .int 0), (2, .int to)]) hx hb dX10_copies_25 hl (k := 0) rfl (by rw [e_zq10_]; rfl) (by decide) rfl (fun ls hl => ?_)
      have h_zq10_ : zq10_.toInt = iq2_.toInt + 1 := by rw [e_zq10_, iAdd (by have : (1 : Int32).toInt = 1 := rfl; omega) (by have : (1 : Int32).toInt = 1 := rfl; omega)]; rfl
      refine lv_goto (tgt := 2) hx hb dX10_copies_28 (by decide) ?_
      exact ih zq10_ _ _ _ ls _ (by omega) (by omega) hc_h hc_al hF hH (lv_sub hl [0, 1, 2, 3] rfl)
  exact loop 1140 0 _ _ _ ls _ (by decide) (by decide) hc_h hc_al hF hH hl
set_option maxHeartbeats 4000000 in
set_option maxRecDepth 100000 in
theorem c_X10_image {l : Launch} {D : va_G} {kA : Nat → ClassId} {M : mM} {T : mT} {sz : Nat} {h al mt ii pa li : Nat} {f : Nat → Int32} {k : Int32} (hc_h : M h = some (.inr (8, [.ref al, .ref mt, .ref ii, .int 0, .int (-1), .ref pa, .int 0, .int 0, .int 0, .int 0, .int 0, .long 0, .int 0, .ref li]))) (hc_al : M al = some (.inl (kA 0, 7506, .inl f))) (hc_ii : M ii = some (.inl (kA 2, 3, .inl (fun _ => 0)))) (ht_mt : T mt = some 11) : mCi l yX10_image cX10_image 4 (some .boolean) 1 0 0 D kA M T sz [.ref h, .int k] (fun r u => (((0 ≤ k.toInt ∧ k.toInt ≤ 2) ∧ r = 1) ∨ ((¬ (0 ≤ k.toInt ∧ k.toInt ≤ 2)) ∧ r = 0)) ∧ u.2 = T ∧ (∀ q, q ≠ al → q ≠ ii → u.1 q = M q)) := by
  unfold mCi
  refine start_W (by decide) (Nat.le_of_ble_eq_true rfl) ?_
  intro p e s m below meth c ls hC hr hlk hnm hK hH hsz hl
  have hx := hC.1
  have hb := hC.2.1
  have hl : lv_has ls 4 [(0, .ref h), (1, .int k)] := hl
  have hF : ∀ q, q ≠ al → q ≠ ii → M q = M q := fun q _ _ => rfl
  have n_h_al : h ≠ al := neM hc_h hc_al (by simp)
  have n_h_ii : h ≠ ii := neM hc_h hc_ii (by simp)
  have n_al_h : al ≠ h := neM hc_al hc_h (by simp)
  have n_al_ii : al ≠ ii := neM hc_al hc_ii (by simp)
  have n_ii_h : ii ≠ h := neM hc_ii hc_h (by simp)
  have n_ii_al : ii ≠ al := neM hc_ii hc_al (by simp)
  refine lv_iload_n hx hb dX10_image_0 rfl (lv_at hl 1 rfl) ?_
  refine lv_iconst (v := 0) hx hb dX10_image_1 (by decide) ?_
  refine lv_iconst (v := 2) hx hb dX10_image_2 (by decide) ?_
  refine goI hK hH (runS (As := [.int k, .int 0, .int 2]) (rest := []) hC hK hH (c_X10_isIn) mlX10_33 ⟨⟨Nat.le_of_ble_eq_true rfl, Nat.le_of_ble_eq_true rfl⟩, Nat.le_of_ble_eq_true rfl, Nat.le_of_ble_eq_true rfl⟩ rfl hl.1 rfl (Nat.le_of_ble_eq_true rfl) dX10_image_3) (fun rq3_ Mq1_ Tq2_ Hq_ lcq_ hP hz hH => ?_)
  try dsimp only at hP
  obtain ⟨(⟨cq4_, rfl⟩ | ⟨cq5_, rfl⟩), eT, eM⟩ := hP
  · skip
    have eT := eT.symm; subst eT
    have eM := eM.symm; subst eM
    have cq4_ : (0 : Int) ≤ k.toInt ∧ k.toInt ≤ (2 : Int) := cq4_
    refine jif_ne (tgt := 11) hx hb dX10_image_6 (by decide) (fun cq6_ => ?_) (fun cq6_ => absurd cq6_ (by decide))
    refine lv_sipush (v := 2280) hx hb dX10_image_11 (by decide) ?_
    refine lv_sipush (v := 1742) hx hb dX10_image_14 (by decide) ?_
    refine lv_iload_n hx hb dX10_image_17 rfl (lv_at hl 1 rfl) ?_
    refine lv_imul hx hb dX10_image_18 ?_
    refine lv_topi (fun zq7_ e_zq7_ => ?_)
    have h_zq7_ : zq7_.toInt = 1742 * k.toInt := by rw [e_zq7_, iMul (by show (-2147483648 : Int) ≤ 1742 * k.toInt; omega) (by show 1742 * k.toInt ≤ (2147483647 : Int); omega)]; rfl
    refine lv_iadd hx hb dX10_image_19 ?_
    refine lv_topi (fun zq8_ e_zq8_ => ?_)
    have h_zq8_ : zq8_.toInt = 2280 + zq7_.toInt := by rw [e_zq8_, iAdd (by have : (2280 : Int32).toInt = 2280 := rfl; have := iRg zq7_; omega) (by have : (2280 : Int32).toInt = 2280 := rfl; have := iRg zq7_; omega)]; rfl
    refine lv_istore_n (lv' := [(2, .int zq8_), (0, .ref h), (1, .int k)]) hx hb dX10_image_20 rfl hl (by decide) rfl (fun ls hl => ?_)
    refine lv_aload_n hx hb dX10_image_21 rfl (lv_at hl 1 rfl) ?_
    refine lv_iconst (v := 0) hx hb dX10_image_22 (by decide) ?_
    refine lv_iload_n hx hb dX10_image_23 rfl (lv_at hl 0 rfl) ?_
    refine goV hK hH (runV (As := [.int 0, .int zq8_]) (rest := []) hC hK hH (c_X10_copies hc_h hc_al (by omega)) mlX10_165 (rcvM hK hH hc_h rfl) ⟨⟨Nat.le_of_ble_eq_true rfl, Nat.le_of_ble_eq_true rfl⟩, Nat.le_of_ble_eq_true rfl, Nat.le_of_ble_eq_true rfl⟩ rfl hl.1 rfl (Nat.le_of_ble_eq_true rfl) dX10_image_24) (fun Mq9_ Tq10_ Hq_ lcq_ hP hz hH => ?_)
    try dsimp only at hP
    obtain ⟨gq12_, h_gq12_, (hx_al), eT, hfr⟩ := hP
    have eT := eT.symm; subst eT
    have hc_h : Mq9_ h = some (.inr (8, [.ref al, .ref mt, .ref ii, .int 0, .int (-1), .ref pa, .int 0, .int 0, .int 0, .int 0, .int 0, .long 0, .int 0, .ref li])) := (hfr h n_h_al).trans hc_h
    have hc_al : Mq9_ al = some (.inl (kA 0, 7506, .inl gq12_)) := hx_al
    have hc_ii : Mq9_ ii = some (.inl (kA 2, 3, .inl (fun _ => 0))) := (hfr ii n_ii_al).trans hc_ii
    have hF : ∀ q, q ≠ al → q ≠ ii → Mq9_ q = M q := fun q h0 h1 => (hfr q h0).trans (hF q h0 h1)
    refine lv_iconst (v := 0) hx hb dX10_image_27 (by decide) ?_
    refine lv_istore_n (lv' := [(3, .int 0), (2, .int zq8_), (0, .ref h), (1, .int k)]) hx hb dX10_image_28 rfl hl (by decide) rfl (fun ls hl => ?_)
    have loop : ∀ (n : Nat) (iq14_ : Int32) (Hq_ : Heap) (lcq_ : List Loc) (Mq15_ : mM) (ls : Array Slot) (fq13_ : Nat → Int32), iq14_.toInt + (n : Int) = 600 → 0 ≤ iq14_.toInt → Mq15_ h = some (.inr (8, [.ref al, .ref mt, .ref ii, .int 0, .int (-1), .ref pa, .int 0, .int 0, .int 0, .int 0, .int 0, .long 0, .int 0, .ref li])) → Mq15_ al = some (.inl (kA 0, 7506, .inl fq13_)) → Mq15_ ii = some (.inl (kA 2, 3, .inl (fun _ => 0))) → (∀ q, q ≠ al → q ≠ ii → Mq15_ q = M q) → mS D kA Mq15_ T (mA M T sz) s.heap Hq_ lcq_ → lv_has ls 4 [(3, .int iq14_), (2, .int zq8_), (0, .ref h), (1, .int k)] → W p l e (rmL 1 0 0) s m ([.ref h, .int k] : List Value).toArray below meth c Hq_ lcq_ 0 0 (MQ below (va_Qi (fun r u => (((0 ≤ k.toInt ∧ k.toInt ≤ 2) ∧ r = 1) ∨ ((¬ (0 ≤ k.toInt ∧ k.toInt ≤ 2)) ∧ r = 0)) ∧ u.2 = T ∧ (∀ q, q ≠ al → q ≠ ii → u.1 q = M q)) (mB D kA M T sz) (mA M T sz)) ([.ref h, .int k] : List Value).toArray s 0 0 (mA M T sz)) (F0 m 29 ls []) := by
      intro n
      induction n with
      | zero =>
        intro iq14_ Hq_ lcq_ Mq15_ ls fq13_ hi_iq14_ h0_iq14_ hc_h hc_al hc_ii hF hH hl
        have hi_iq14_ : iq14_.toInt = 600 := by omega
        refine lv_iload_n hx hb dX10_image_29 rfl (lv_at hl 0 rfl) ?_
        refine lv_sipush (v := 600) hx hb dX10_image_30 (by decide) ?_
        refine jic_ge (tgt := 60) hx hb dX10_image_33 (by decide) (fun cq16_ => ?_) (fun cq16_ => absurd cq16_ (by have := iRg iq14_; have : (600 : Int32).toInt = 600 := rfl; omega))
        have cq16_ : 600 ≤ iq14_.toInt := cq16_
        refine lv_aload_n hx hb dX10_image_60 rfl (lv_at hl 2 rfl) ?_
        refine xg hC hK hH flX10_7 hc_h rfl dX10_image_61 ?_
        refine lv_iload_n hx hb dX10_image_64 rfl (lv_at hl 1 rfl) ?_
        refine lv_sipush (v := 1140) hx hb dX10_image_65 (by decide) ?_
        refine lv_iadd hx hb dX10_image_68 ?_
        refine lv_topi (fun zq17_ e_zq17_ => ?_)
        have h_zq17_ : zq17_.toInt = zq8_.toInt + 1140 := by rw [e_zq17_, iAdd (by have := iRg zq8_; have : (1140 : Int32).toInt = 1140 := rfl; omega) (by have := iRg zq8_; have : (1140 : Int32).toInt = 1140 := rfl; omega)]; rfl
        refine lv_sipush (v := 600) hx hb dX10_image_69 (by decide) ?_
        refine lv_iadd hx hb dX10_image_72 ?_
        refine lv_topi (fun zq18_ e_zq18_ => ?_)
        have h_zq18_ : zq18_.toInt = zq17_.toInt + 600 := by rw [e_zq18_, iAdd (by have := iRg zq17_; have : (600 : Int32).toInt = 600 := rfl; omega) (by have := iRg zq17_; have : (600 : Int32).toInt = 600 := rfl; omega)]; rfl
        refine lv_aload_n hx hb dX10_image_73 rfl (lv_at hl 2 rfl) ?_
        refine xg hC hK hH flX10_180 hc_h rfl dX10_image_74 ?_
        refine yist (x := 0) hC hK hH hc_al (iIn (by omega) (by omega)) dX10_image_77 (fun Hq_ lcq_ Mq19_ hc_al hfr hH => ?_)
        have hc_al : Mq19_ al = some (.inl (kA 0, 7506, .inl (upd fq13_ (Int32.toNatClampNeg zq18_) 0))) := hc_al
        have hc_h : Mq19_ h = some (.inr (8, [.ref al, .ref mt, .ref ii, .int 0, .int (-1), .ref pa, .int 0, .int 0, .int 0, .int 0, .int 0, .long 0, .int 0, .ref li])) := (hfr h n_h_al).trans hc_h
        have hc_ii : Mq19_ ii = some (.inl (kA 2, 3, .inl (fun _ => 0))) := (hfr ii n_ii_al).trans hc_ii
        have hF : ∀ q, q ≠ al → q ≠ ii → Mq19_ q = M q := fun q h0 h1 => (hfr q h0).trans (hF q h0 h1)
        refine lv_aload_n hx hb dX10_image_78 rfl (lv_at hl 2 rfl) ?_
        refine xg hC hK hH flX10_7 hc_h rfl dX10_image_79 ?_
        refine lv_iload_n hx hb dX10_image_82 rfl (lv_at hl 1 rfl) ?_
        refine lv_sipush (v := 1140) hx hb dX10_image_83 (by decide) ?_
        refine lv_iadd hx hb dX10_image_86 ?_
        refine lv_topi (fun zq20_ e_zq20_ => ?_)
        have h_zq20_ : zq20_.toInt = zq8_.toInt + 1140 := by rw [e_zq20_, iAdd (by have := iRg zq8_; have : (1140 : Int32).toInt = 1140 := rfl; omega) (by have := iRg zq8_; have : (1140 : Int32).toInt = 1140 := rfl; omega)]; rfl
        refine lv_sipush (v := 600) hx hb dX10_image_87 (by decide) ?_
        refine lv_iadd hx hb dX10_image_90 ?_
        refine lv_topi (fun zq21_ e_zq21_ => ?_)
        have h_zq21_ : zq21_.toInt = zq20_.toInt + 600 := by rw [e_zq21_, iAdd (by have := iRg zq20_; have : (600 : Int32).toInt = 600 := rfl; omega) (by have := iRg zq20_; have : (600 : Int32).toInt = 600 := rfl; omega)]; rfl
        refine lv_iconst (v := 1) hx hb dX10_image_91 (by decide) ?_
        refine lv_iadd hx hb dX10_image_92 ?_
        refine lv_topi (fun zq22_ e_zq22_ => ?_)
        have h_zq22_ : zq22_.toInt = zq21_.toInt + 1 := by rw [e_zq22_, iAdd (by have := iRg zq21_; have : (1 : Int32).toInt = 1 := rfl; omega) (by have := iRg zq21_; have : (1 : Int32).toInt = 1 := rfl; omega)]; rfl
        refine lv_aload_n hx hb dX10_image_93 rfl (lv_at hl 2 rfl) ?_
        refine xg hC hK hH flX10_20 hc_h rfl dX10_image_94 ?_
        refine yist (x := -1) hC hK hH hc_al (iIn (by omega) (by omega)) dX10_image_97 (fun Hq_ lcq_ Mq23_ hc_al hfr hH => ?_)
        have hc_al : Mq23_ al = some (.inl (kA 0, 7506, .inl (upd (upd fq13_ (Int32.toNatClampNeg zq18_) 0) (Int32.toNatClampNeg zq22_) (-1)))) := hc_al
        have hc_h : Mq23_ h = some (.inr (8, [.ref al, .ref mt, .ref ii, .int 0, .int (-1), .ref pa, .int 0, .int 0, .int 0, .int 0, .int 0, .long 0, .int 0, .ref li])) := (hfr h n_h_al).trans hc_h
        have hc_ii : Mq23_ ii = some (.inl (kA 2, 3, .inl (fun _ => 0))) := (hfr ii n_ii_al).trans hc_ii
        have hF : ∀ q, q ≠ al → q ≠ ii → Mq23_ q = M q := fun q h0 h1 => (hfr q h0).trans (hF q h0 h1)
        refine lv_aload_n hx hb dX10_image_98 rfl (lv_at hl 2 rfl) ?_
        refine xg hC hK hH flX10_16 hc_h rfl dX10_image_99 ?_
        refine lv_iload_n hx hb dX10_image_102 rfl (lv_at hl 3 rfl) ?_
        refine lv_iconst (v := 1) hx hb dX10_image_103 (by decide) ?_
        refine yzst (x := 1) hC hK hH hc_ii (iIn (by omega) (by omega)) dX10_image_104 (fun Hq_ lcq_ Mq24_ hc_ii hfr hH => ?_)
        have hc_ii : Mq24_ ii = some (.inl (kA 2, 3, .inl (upd (fun _ => 0) (Int32.toNatClampNeg k) (vp_nar .boolean 1)))) := hc_ii
        have hc_h : Mq24_ h = some (.inr (8, [.ref al, .ref mt, .ref ii, .int 0, .int (-1), .ref pa, .int 0, .int 0, .int 0, .int 0, .int 0, .long 0, .int 0, .ref li])) := (hfr h n_h_ii).trans hc_h
        have hc_al : Mq24_ al = some (.inl (kA 0, 7506, .inl (upd (upd fq13_ (Int32.toNatClampNeg zq18_) 0) (Int32.toNatClampNeg zq22_) (-1)))) := (hfr al n_al_ii).trans hc_al
        have hF : ∀ q, q ≠ al → q ≠ ii → Mq24_ q = M q := fun q h0 h1 => (hfr q h1).trans (hF q h0 h1)
        refine lv_iconst (v := 1) hx hb dX10_image_105 (by decide) ?_
        subst e_zq22_
        subst e_zq21_
        subst e_zq20_
        subst e_zq18_
        subst e_zq17_
        subst e_zq8_
        subst e_zq7_
        exact ret_z hC hr hlk hK hH (by first | exact Or.inl rfl | exact Or.inr rfl | assumption) (⟨Or.inl (⟨by omega, rfl⟩), rfl, hF⟩) (Nat.le_of_ble_eq_true rfl) (Nat.le_of_ble_eq_true rfl) dX10_image_106
      | succ n ih =>
        intro iq14_ Hq_ lcq_ Mq15_ ls fq13_ hi_iq14_ h0_iq14_ hc_h hc_al hc_ii hF hH hl
        have hj_iq14_ : iq14_.toInt ≤ 599 := by omega
        refine lv_iload_n hx hb dX10_image_29 rfl (lv_at hl 0 rfl) ?_
        refine lv_sipush (v := 600) hx hb dX10_image_30 (by decide) ?_
        refine jic_ge (tgt := 60) hx hb dX10_image_33 (by decide) (fun cq25_ => absurd cq25_ (by have := iRg iq14_; have : (600 : Int32).toInt = 600 := rfl; omega)) (fun cq25_ => ?_)
        have cq25_ : iq14_.toInt < 600 := cq25_
        refine lv_aload_n hx hb dX10_image_36 rfl (lv_at hl 2 rfl) ?_
        refine xg hC hK hH flX10_7 hc_h rfl dX10_image_37 ?_
        refine lv_iload_n hx hb dX10_image_40 rfl (lv_at hl 1 rfl) ?_
        refine lv_sipush (v := 1140) hx hb dX10_image_41 (by decide) ?_
        refine lv_iadd hx hb dX10_image_44 ?_
        refine lv_topi (fun zq26_ e_zq26_ => ?_)
        have h_zq26_ : zq26_.toInt = zq8_.toInt + 1140 := by rw [e_zq26_, iAdd (by have := iRg zq8_; have : (1140 : Int32).toInt = 1140 := rfl; omega) (by have := iRg zq8_; have : (1140 : Int32).toInt = 1140 := rfl; omega)]; rfl
        refine lv_iload_n hx hb dX10_image_45 rfl (lv_at hl 0 rfl) ?_
        refine lv_iadd hx hb dX10_image_46 ?_
        refine lv_topi (fun zq27_ e_zq27_ => ?_)
        have h_zq27_ : zq27_.toInt = zq26_.toInt + iq14_.toInt := by rw [e_zq27_, iAdd (by have := iRg zq26_; have := iRg iq14_; omega) (by have := iRg zq26_; have := iRg iq14_; omega)]
        refine lv_aload_n hx hb dX10_image_47 rfl (lv_at hl 2 rfl) ?_
        refine xg hC hK hH flX10_13 hc_h rfl dX10_image_48 ?_
        refine lv_iload_n hx hb dX10_image_51 rfl (lv_at hl 0 rfl) ?_
        refine tild hC hK hH ht_mt rfl (iIn (by omega) (by omega)) dX10_image_52 (fun xq28_ l_xq28_ g_xq28_ => ?_)
        refine yist (x := xq28_) hC hK hH hc_al (iIn (by omega) (by omega)) dX10_image_53 (fun Hq_ lcq_ Mq29_ hc_al hfr hH => ?_)
        have hc_al : Mq29_ al = some (.inl (kA 0, 7506, .inl (upd fq13_ (Int32.toNatClampNeg zq27_) xq28_))) := hc_al
        have hc_h : Mq29_ h = some (.inr (8, [.ref al, .ref mt, .ref ii, .int 0, .int (-1), .ref pa, .int 0, .int 0, .int 0, .int 0, .int 0, .long 0, .int 0, .ref li])) := (hfr h n_h_al).trans hc_h
        have hc_ii : Mq29_ ii = some (.inl (kA 2, 3, .inl (fun _ => 0))) := (hfr ii n_ii_al).trans hc_ii
        have hF : ∀ q, q ≠ al → q ≠ ii → Mq29_ q = M q := fun q h0 h1 => (hfr q h0).trans (hF q h0 h1)
        obtain ⟨zq30_, e_zq30_⟩ : ∃ y : Int32, y = iq14_ + 1 := ⟨_, rfl⟩
        refine lv_iinc (v := zq30_) (lv' := [(3, .int zq30_), (2, .int zq8_), (0, .ref h), (1, .int k)]) hx hb dX10_image_54 hl (k := 0) rfl (by rw [e_zq30_]; rfl) (by decide) rfl (fun ls hl => ?_)
        have h_zq30_ : zq30_.toInt = iq14_.toInt + 1 := by rw [e_zq30_, iAdd (by have : (1 : Int32).toInt = 1 := rfl; omega) (by have : (1 : Int32).toInt = 1 := rfl; omega)]; rfl
        refine lv_goto (tgt := 29) hx hb dX10_image_57 (by decide) ?_
        exact ih zq30_ _ _ _ ls _ (by omega) (by omega) hc_h hc_al hc_ii hF hH (lv_sub hl [0, 1, 2, 3] rfl)
    exact loop 600 0 _ _ _ ls _ (by decide) (by decide) hc_h hc_al hc_ii hF hH hl
  · skip
    have eT := eT.symm; subst eT
    have eM := eM.symm; subst eM
    have cq5_ : ¬ ((0 : Int) ≤ k.toInt ∧ k.toInt ≤ (2 : Int)) := cq5_
    refine jif_ne (tgt := 11) hx hb dX10_image_6 (by decide) (fun cq31_ => absurd cq31_ (by decide)) (fun cq31_ => ?_)
    refine lv_iconst (v := 0) hx hb dX10_image_9 (by decide) ?_
    exact ret_z hC hr hlk hK hH (by first | exact Or.inl rfl | exact Or.inr rfl | assumption) (⟨Or.inr (⟨by omega, rfl⟩), rfl, hF⟩) (Nat.le_of_ble_eq_true rfl) (Nat.le_of_ble_eq_true rfl) dX10_image_10
