theorem cpX8_54 : CPL RX8 54 := ⟨TB_t 945 (by decide +kernel) rfl, TB_t 562 (by decide +kernel) rfl, TB_t 561 (by decide +kernel) rfl, TB_t 19 (by decide +kernel) rfl⟩
set_option maxHeartbeats 4000000 in
set_option maxRecDepth 100000 in
theorem c_X8_copy {l : Launch} {D : va_G} {kA : Nat → ClassId} {M : mM} {T : mT} {sz : Nat} {v cs2 bs2 tp2 w cs bs tp : Nat} {f g : Nat → Int32} (hc_v : M v = some (.inr (6, [.int 0, .int 2, .int 0, .int 0, .int 0, .int 0, .int 0, .int (-1), .ref cs2, .ref bs2, .ref tp2]))) (hc_w : M w = some (.inr (6, [.int 0, .int 2, .int 0, .int 0, .int 0, .int 0, .int 0, .int (-1), .ref cs, .ref bs, .ref tp]))) (hc_cs2 : M cs2 = some (.inl (kA 0, 8, .inl g))) (hc_cs : M cs = some (.inl (kA 0, 8, .inl f))) (ht_tp : T tp = some 7) (ht_tp2 : T tp2 = some 7) (n_v_w : v ≠ w) (n_w_v : w ≠ v) (n_cs_cs2 : cs ≠ cs2) (n_cs2_cs : cs2 ≠ cs) : mCv l yX8_copy cX8_copy 3 1 0 0 D kA M T sz [.ref v, .ref w] (fun u => (True) ∧ u.2 = T ∧ (∀ q, q ≠ v → q ≠ cs2 → u.1 q = M q)) := by
  unfold mCv
  refine start_W (by decide) (Nat.le_of_ble_eq_true rfl) ?_
  intro p e s m below meth c ls hC hr hlk hnm hK hH hsz hl
  have hx := hC.1
  have hb := hC.2.1
  have hl : lv_has ls 3 [(0, .ref v), (1, .ref w)] := hl
  have hF : ∀ q, q ≠ v → q ≠ cs2 → M q = M q := fun q _ _ => rfl
  have n_v_cs2 : v ≠ cs2 := neM hc_v hc_cs2 (by simp)
  have n_v_cs : v ≠ cs := neM hc_v hc_cs (by simp)
  have n_w_cs2 : w ≠ cs2 := neM hc_w hc_cs2 (by simp)
  have n_w_cs : w ≠ cs := neM hc_w hc_cs (by simp)
  have n_cs2_v : cs2 ≠ v := neM hc_cs2 hc_v (by simp)
  have n_cs2_w : cs2 ≠ w := neM hc_cs2 hc_w (by simp)
  have n_cs_v : cs ≠ v := neM hc_cs hc_v (by simp)
  have n_cs_w : cs ≠ w := neM hc_cs hc_w (by simp)
  refine lv_aload_n hx hb dX8_copy_0 rfl (lv_at hl 0 rfl) ?_
  refine lv_aload_n hx hb dX8_copy_1 rfl (lv_at hl 1 rfl) ?_
  refine xg hC hK hH flX8_29 hc_w rfl dX8_copy_2 ?_
  refine yp (v := .int 0) hC hK hH flX8_29 hc_v rfl rfl (Nat.le_of_ble_eq_true rfl) dX8_copy_5 (fun Hq_ lcq_ Mq1_ hc_v hfr hH => ?_)
  have hc_v : Mq1_ v = some (.inr (6, [.int 0, .int 2, .int 0, .int 0, .int 0, .int 0, .int 0, .int (-1), .ref cs2, .ref bs2, .ref tp2])) := hc_v
  have hc_w : Mq1_ w = some (.inr (6, [.int 0, .int 2, .int 0, .int 0, .int 0, .int 0, .int 0, .int (-1), .ref cs, .ref bs, .ref tp])) := (hfr w n_w_v).trans hc_w
  have hc_cs2 : Mq1_ cs2 = some (.inl (kA 0, 8, .inl g)) := (hfr cs2 n_cs2_v).trans hc_cs2
  have hc_cs : Mq1_ cs = some (.inl (kA 0, 8, .inl f)) := (hfr cs n_cs_v).trans hc_cs
  have hF : ∀ q, q ≠ v → q ≠ cs2 → Mq1_ q = M q := fun q h0 h1 => (hfr q h0).trans (hF q h0 h1)
  refine lv_aload_n hx hb dX8_copy_8 rfl (lv_at hl 0 rfl) ?_
  refine lv_aload_n hx hb dX8_copy_9 rfl (lv_at hl 1 rfl) ?_
  refine xg hC hK hH flX8_33 hc_w rfl dX8_copy_10 ?_
  refine yp (v := .int 2) hC hK hH flX8_33 hc_v rfl rfl (Nat.le_of_ble_eq_true rfl) dX8_copy_13 (fun Hq_ lcq_ Mq2_ hc_v hfr hH => ?_)
  have hc_v : Mq2_ v = some (.inr (6, [.int 0, .int 2, .int 0, .int 0, .int 0, .int 0, .int 0, .int (-1), .ref cs2, .ref bs2, .ref tp2])) := hc_v
  have hc_w : Mq2_ w = some (.inr (6, [.int 0, .int 2, .int 0, .int 0, .int 0, .int 0, .int 0, .int (-1), .ref cs, .ref bs, .ref tp])) := (hfr w n_w_v).trans hc_w
  have hc_cs2 : Mq2_ cs2 = some (.inl (kA 0, 8, .inl g)) := (hfr cs2 n_cs2_v).trans hc_cs2
  have hc_cs : Mq2_ cs = some (.inl (kA 0, 8, .inl f)) := (hfr cs n_cs_v).trans hc_cs
  have hF : ∀ q, q ≠ v → q ≠ cs2 → Mq2_ q = M q := fun q h0 h1 => (hfr q h0).trans (hF q h0 h1)
  refine lv_aload_n hx hb dX8_copy_16 rfl (lv_at hl 0 rfl) ?_
  refine lv_aload_n hx hb dX8_copy_17 rfl (lv_at hl 1 rfl) ?_
  refine xg hC hK hH flX8_36 hc_w rfl dX8_copy_18 ?_
  refine yp (v := .int 0) hC hK hH flX8_36 hc_v rfl rfl (Nat.le_of_ble_eq_true rfl) dX8_copy_21 (fun Hq_ lcq_ Mq3_ hc_v hfr hH => ?_)
  have hc_v : Mq3_ v = some (.inr (6, [.int 0, .int 2, .int 0, .int 0, .int 0, .int 0, .int 0, .int (-1), .ref cs2, .ref bs2, .ref tp2])) := hc_v
  have hc_w : Mq3_ w = some (.inr (6, [.int 0, .int 2, .int 0, .int 0, .int 0, .int 0, .int 0, .int (-1), .ref cs, .ref bs, .ref tp])) := (hfr w n_w_v).trans hc_w
  have hc_cs2 : Mq3_ cs2 = some (.inl (kA 0, 8, .inl g)) := (hfr cs2 n_cs2_v).trans hc_cs2
  have hc_cs : Mq3_ cs = some (.inl (kA 0, 8, .inl f)) := (hfr cs n_cs_v).trans hc_cs
  have hF : ∀ q, q ≠ v → q ≠ cs2 → Mq3_ q = M q := fun q h0 h1 => (hfr q h0).trans (hF q h0 h1)
  refine lv_aload_n hx hb dX8_copy_24 rfl (lv_at hl 0 rfl) ?_
  refine lv_aload_n hx hb dX8_copy_25 rfl (lv_at hl 1 rfl) ?_
  refine xg hC hK hH flX8_39 hc_w rfl dX8_copy_26 ?_
  refine yp (v := .int 0) hC hK hH flX8_39 hc_v rfl rfl (Nat.le_of_ble_eq_true rfl) dX8_copy_29 (fun Hq_ lcq_ Mq4_ hc_v hfr hH => ?_)
  have hc_v : Mq4_ v = some (.inr (6, [.int 0, .int 2, .int 0, .int 0, .int 0, .int 0, .int 0, .int (-1), .ref cs2, .ref bs2, .ref tp2])) := hc_v
  have hc_w : Mq4_ w = some (.inr (6, [.int 0, .int 2, .int 0, .int 0, .int 0, .int 0, .int 0, .int (-1), .ref cs, .ref bs, .ref tp])) := (hfr w n_w_v).trans hc_w
  have hc_cs2 : Mq4_ cs2 = some (.inl (kA 0, 8, .inl g)) := (hfr cs2 n_cs2_v).trans hc_cs2
  have hc_cs : Mq4_ cs = some (.inl (kA 0, 8, .inl f)) := (hfr cs n_cs_v).trans hc_cs
  have hF : ∀ q, q ≠ v → q ≠ cs2 → Mq4_ q = M q := fun q h0 h1 => (hfr q h0).trans (hF q h0 h1)
  refine lv_aload_n hx hb dX8_copy_32 rfl (lv_at hl 0 rfl) ?_
  refine lv_aload_n hx hb dX8_copy_33 rfl (lv_at hl 1 rfl) ?_
  refine xg hC hK hH flX8_42 hc_w rfl dX8_copy_34 ?_
  refine yp (v := .int 0) hC hK hH flX8_42 hc_v rfl rfl (Nat.le_of_ble_eq_true rfl) dX8_copy_37 (fun Hq_ lcq_ Mq5_ hc_v hfr hH => ?_)
  have hc_v : Mq5_ v = some (.inr (6, [.int 0, .int 2, .int 0, .int 0, .int 0, .int 0, .int 0, .int (-1), .ref cs2, .ref bs2, .ref tp2])) := hc_v
  have hc_w : Mq5_ w = some (.inr (6, [.int 0, .int 2, .int 0, .int 0, .int 0, .int 0, .int 0, .int (-1), .ref cs, .ref bs, .ref tp])) := (hfr w n_w_v).trans hc_w
  have hc_cs2 : Mq5_ cs2 = some (.inl (kA 0, 8, .inl g)) := (hfr cs2 n_cs2_v).trans hc_cs2
  have hc_cs : Mq5_ cs = some (.inl (kA 0, 8, .inl f)) := (hfr cs n_cs_v).trans hc_cs
  have hF : ∀ q, q ≠ v → q ≠ cs2 → Mq5_ q = M q := fun q h0 h1 => (hfr q h0).trans (hF q h0 h1)
  refine lv_aload_n hx hb dX8_copy_40 rfl (lv_at hl 0 rfl) ?_
  refine lv_aload_n hx hb dX8_copy_41 rfl (lv_at hl 1 rfl) ?_
  refine xg hC hK hH flX8_45 hc_w rfl dX8_copy_42 ?_
  refine yp (v := .int 0) hC hK hH flX8_45 hc_v rfl rfl (Nat.le_of_ble_eq_true rfl) dX8_copy_45 (fun Hq_ lcq_ Mq6_ hc_v hfr hH => ?_)
  have hc_v : Mq6_ v = some (.inr (6, [.int 0, .int 2, .int 0, .int 0, .int 0, .int 0, .int 0, .int (-1), .ref cs2, .ref bs2, .ref tp2])) := hc_v
  have hc_w : Mq6_ w = some (.inr (6, [.int 0, .int 2, .int 0, .int 0, .int 0, .int 0, .int 0, .int (-1), .ref cs, .ref bs, .ref tp])) := (hfr w n_w_v).trans hc_w
  have hc_cs2 : Mq6_ cs2 = some (.inl (kA 0, 8, .inl g)) := (hfr cs2 n_cs2_v).trans hc_cs2
  have hc_cs : Mq6_ cs = some (.inl (kA 0, 8, .inl f)) := (hfr cs n_cs_v).trans hc_cs
  have hF : ∀ q, q ≠ v → q ≠ cs2 → Mq6_ q = M q := fun q h0 h1 => (hfr q h0).trans (hF q h0 h1)
  refine lv_aload_n hx hb dX8_copy_48 rfl (lv_at hl 0 rfl) ?_
  refine lv_aload_n hx hb dX8_copy_49 rfl (lv_at hl 1 rfl) ?_
  refine xg hC hK hH flX8_48 hc_w rfl dX8_copy_50 ?_
  refine yp (v := .int 0) hC hK hH flX8_48 hc_v rfl rfl (Nat.le_of_ble_eq_true rfl) dX8_copy_53 (fun Hq_ lcq_ Mq7_ hc_v hfr hH => ?_)
  have hc_v : Mq7_ v = some (.inr (6, [.int 0, .int 2, .int 0, .int 0, .int 0, .int 0, .int 0, .int (-1), .ref cs2, .ref bs2, .ref tp2])) := hc_v
  have hc_w : Mq7_ w = some (.inr (6, [.int 0, .int 2, .int 0, .int 0, .int 0, .int 0, .int 0, .int (-1), .ref cs, .ref bs, .ref tp])) := (hfr w n_w_v).trans hc_w
  have hc_cs2 : Mq7_ cs2 = some (.inl (kA 0, 8, .inl g)) := (hfr cs2 n_cs2_v).trans hc_cs2
  have hc_cs : Mq7_ cs = some (.inl (kA 0, 8, .inl f)) := (hfr cs n_cs_v).trans hc_cs
  have hF : ∀ q, q ≠ v → q ≠ cs2 → Mq7_ q = M q := fun q h0 h1 => (hfr q h0).trans (hF q h0 h1)
  refine lv_aload_n hx hb dX8_copy_56 rfl (lv_at hl 0 rfl) ?_
  refine lv_aload_n hx hb dX8_copy_57 rfl (lv_at hl 1 rfl) ?_
  refine xg hC hK hH flX8_51 hc_w rfl dX8_copy_58 ?_
  refine yp (v := .int (-1)) hC hK hH flX8_51 hc_v rfl rfl (Nat.le_of_ble_eq_true rfl) dX8_copy_61 (fun Hq_ lcq_ Mq8_ hc_v hfr hH => ?_)
  have hc_v : Mq8_ v = some (.inr (6, [.int 0, .int 2, .int 0, .int 0, .int 0, .int 0, .int 0, .int (-1), .ref cs2, .ref bs2, .ref tp2])) := hc_v
  have hc_w : Mq8_ w = some (.inr (6, [.int 0, .int 2, .int 0, .int 0, .int 0, .int 0, .int 0, .int (-1), .ref cs, .ref bs, .ref tp])) := (hfr w n_w_v).trans hc_w
  have hc_cs2 : Mq8_ cs2 = some (.inl (kA 0, 8, .inl g)) := (hfr cs2 n_cs2_v).trans hc_cs2
  have hc_cs : Mq8_ cs = some (.inl (kA 0, 8, .inl f)) := (hfr cs n_cs_v).trans hc_cs
  have hF : ∀ q, q ≠ v → q ≠ cs2 → Mq8_ q = M q := fun q h0 h1 => (hfr q h0).trans (hF q h0 h1)
  refine lv_aload_n hx hb dX8_copy_64 rfl (lv_at hl 1 rfl) ?_
  refine xg hC hK hH flX8_9 hc_w rfl dX8_copy_65 ?_
  refine lv_iconst (v := 0) hx hb dX8_copy_68 (by decide) ?_
  refine lv_aload_n hx hb dX8_copy_69 rfl (lv_at hl 0 rfl) ?_
  refine xg hC hK hH flX8_9 hc_v rfl dX8_copy_70 ?_
  refine lv_iconst (v := 0) hx hb dX8_copy_73 (by decide) ?_
  refine lv_bipush (v := 8) hx hb dX8_copy_74 (by decide) ?_
  refine ycpy hC hK hH hl.1 cpX8_54 hc_cs hc_cs2 (by decide) (by decide) (by decide) (Nat.le_of_ble_eq_true rfl) (Nat.le_of_ble_eq_true rfl) (Nat.le_of_ble_eq_true rfl) (Nat.le_of_ble_eq_true rfl) dX8_copy_76 (fun Hq_ lcq_ Mq9_ hc_cs2 hfr hH => ?_)
  have hc_cs2 : Mq9_ cs2 = some (.inl (kA 0, 8, .inl (va_cpy f g (Int32.toNatClampNeg 0) (Int32.toNatClampNeg 0) (Int32.toNatClampNeg 8)))) := hc_cs2
  have hc_v : Mq9_ v = some (.inr (6, [.int 0, .int 2, .int 0, .int 0, .int 0, .int 0, .int 0, .int (-1), .ref cs2, .ref bs2, .ref tp2])) := (hfr v n_v_cs2).trans hc_v
  have hc_w : Mq9_ w = some (.inr (6, [.int 0, .int 2, .int 0, .int 0, .int 0, .int 0, .int 0, .int (-1), .ref cs, .ref bs, .ref tp])) := (hfr w n_w_cs2).trans hc_w
  have hc_cs : Mq9_ cs = some (.inl (kA 0, 8, .inl f)) := (hfr cs n_cs_cs2).trans hc_cs
  have hF : ∀ q, q ≠ v → q ≠ cs2 → Mq9_ q = M q := fun q h0 h1 => (hfr q h1).trans (hF q h0 h1)
  refine lv_aload_n hx hb dX8_copy_79 rfl (lv_at hl 1 rfl) ?_
  refine xg hC hK hH flX8_21 hc_w rfl dX8_copy_80 ?_
  refine lv_iconst (v := 0) hx hb dX8_copy_83 (by decide) ?_
  refine lv_aload_n hx hb dX8_copy_84 rfl (lv_at hl 0 rfl) ?_
  refine xg hC hK hH flX8_21 hc_v rfl dX8_copy_85 ?_
  refine lv_iconst (v := 0) hx hb dX8_copy_88 (by decide) ?_
  refine lv_sipush (v := 600) hx hb dX8_copy_89 (by decide) ?_
  refine tcpy hC hK hH hl.1 cpX8_54 ht_tp ht_tp2 rfl rfl rfl (fun _ h1 h2 => fit8 h1 h2) (by decide) (by decide) (by decide) (Nat.le_of_ble_eq_true rfl) (Nat.le_of_ble_eq_true rfl) (Nat.le_of_ble_eq_true rfl) (Nat.le_of_ble_eq_true rfl) dX8_copy_92 (fun Hq_ lcq_ hH => ?_)
  refine lv_iconst (v := 0) hx hb dX8_copy_95 (by decide) ?_
  refine lv_istore_n (lv' := [(2, .int 0), (0, .ref v), (1, .ref w)]) hx hb dX8_copy_96 rfl hl (by decide) rfl (fun ls hl => ?_)
  refine lv_iload_n hx hb dX8_copy_97 rfl (lv_at hl 0 rfl) ?_
  refine lv_iconst (v := 4) hx hb dX8_copy_98 (by decide) ?_
  refine jic_ge (tgt := 131) hx hb dX8_copy_99 (by decide) (fun cq10_ => absurd cq10_ (by decide)) (fun cq10_ => ?_)
  refine lv_iload_n hx hb dX8_copy_102 rfl (lv_at hl 0 rfl) ?_
  refine lv_aload_n hx hb dX8_copy_103 rfl (lv_at hl 2 rfl) ?_
  refine xg hC hK hH flX8_36 hc_w rfl dX8_copy_104 ?_
  refine jic_ge (tgt := 131) hx hb dX8_copy_107 (by decide) (fun cq11_ => ?_) (fun cq11_ => absurd cq11_ (by decide))
  exact ret_v hC hr hlk hK hH (⟨trivial, rfl, hF⟩) (Nat.le_of_ble_eq_true rfl) (Nat.le_of_ble_eq_true rfl) dX8_copy_131
set_option maxHeartbeats 4000000 in
set_option maxRecDepth 100000 in
theorem c_X9_again {l : Launch} {D : va_G} {kA : Nat → ClassId} {M : mM} {T : mT} {sz : Nat} {ro im rd rc cu : Nat} {w cs bs tp : Nat} {k : Int32} (hc_ro : M ro = some (.inr (7, [.ref w, .ref im, .ref rd, .ref rc, .ref cu]))) (hc_w : M w = some (.inr (6, [.int 0, .int 2, .int 0, .int 0, .int 0, .int 0, .int 0, .int (-1), .ref cs, .ref bs, .ref tp]))) (hc_im : M im = some (.inl (kA 6, 3, .inr (.inr (.inr (.inr (fun _ => none))))))) : mCi l yX9_again cX9_again 2 (some .boolean) 0 0 0 D kA M T sz [.ref ro, .int k] (fun r u => (r = 0) ∧ u.2 = T ∧ u.1 = M) := by
  unfold mCi
  refine start_W (by decide) (Nat.le_of_ble_eq_true rfl) ?_
  intro p e s m below meth c ls hC hr hlk hnm hK hH hsz hl
  have hx := hC.1
  have hb := hC.2.1
  have hl : lv_has ls 2 [(0, .ref ro), (1, .int k)] := hl
  have n_ro_w : ro ≠ w := neM hc_ro hc_w (by simp)
  have n_ro_im : ro ≠ im := neM hc_ro hc_im (by simp)
  have n_w_ro : w ≠ ro := neM hc_w hc_ro (by simp)
  have n_w_im : w ≠ im := neM hc_w hc_im (by simp)
  have n_im_ro : im ≠ ro := neM hc_im hc_ro (by simp)
  have n_im_w : im ≠ w := neM hc_im hc_w (by simp)
  refine lv_iload_n hx hb dX9_again_0 rfl (lv_at hl 1 rfl) ?_
  refine jif_lt (tgt := 18) hx hb dX9_again_1 (by decide) (fun cq1_ => ?_) (fun cq1_ => ?_)
  · skip
    have cq1_ : k.toInt < 0 := cq1_
    refine lv_iconst (v := 0) hx hb dX9_again_18 (by decide) ?_
    exact ret_z hC hr hlk hK hH (by first | exact Or.inl rfl | exact Or.inr rfl | assumption) (⟨rfl, rfl, rfl⟩) (Nat.le_of_ble_eq_true rfl) (Nat.le_of_ble_eq_true rfl) dX9_again_19
  · skip
    have cq1_ : 0 ≤ k.toInt := cq1_
    refine lv_iload_n hx hb dX9_again_4 rfl (lv_at hl 1 rfl) ?_
    refine lv_iconst (v := 3) hx hb dX9_again_5 (by decide) ?_
    refine jic_ge (tgt := 18) hx hb dX9_again_6 (by decide) (fun cq2_ => ?_) (fun cq2_ => ?_)
    · skip
      have cq2_ : 3 ≤ k.toInt := cq2_
      refine lv_iconst (v := 0) hx hb dX9_again_18 (by decide) ?_
      exact ret_z hC hr hlk hK hH (by first | exact Or.inl rfl | exact Or.inr rfl | assumption) (⟨rfl, rfl, rfl⟩) (Nat.le_of_ble_eq_true rfl) (Nat.le_of_ble_eq_true rfl) dX9_again_19
    · skip
      have cq2_ : k.toInt < 3 := cq2_
      refine lv_aload_n hx hb dX9_again_9 rfl (lv_at hl 0 rfl) ?_
      refine xg hC hK hH flX9_16 hc_ro rfl dX9_again_10 ?_
      refine lv_iload_n hx hb dX9_again_13 rfl (lv_at hl 1 rfl) ?_
      refine xqld (ck := 6) hC hK hH rfl hc_im (iIn (by omega) (by omega)) dX9_again_14 ?_
      refine lv_qn rfl ?_
      refine lv_ifnonnullN hx hb dX9_again_15 ?_
      refine lv_iconst (v := 0) hx hb dX9_again_18 (by decide) ?_
      exact ret_z hC hr hlk hK hH (by first | exact Or.inl rfl | exact Or.inr rfl | assumption) (⟨rfl, rfl, rfl⟩) (Nat.le_of_ble_eq_true rfl) (Nat.le_of_ble_eq_true rfl) dX9_again_19
set_option maxHeartbeats 4000000 in
set_option maxRecDepth 100000 in
theorem c_X9_image {l : Launch} {D : va_G} {kA : Nat → ClassId} {M : mM} {T : mT} {sz : Nat} {ro im rd rc cu : Nat} {w cs bs tp : Nat} {k : Int32} {f : Nat → Int32} (hc_ro : M ro = some (.inr (7, [.ref w, .ref im, .ref rd, .ref rc, .ref cu]))) (hc_w : M w = some (.inr (6, [.int 0, .int 2, .int 0, .int 0, .int 0, .int 0, .int 0, .int (-1), .ref cs, .ref bs, .ref tp]))) (hc_cs : M cs = some (.inl (kA 0, 8, .inl (c100 f)))) (hc_im : M im = some (.inl (kA 6, 3, .inr (.inr (.inr (.inr (fun _ => none))))))) (ht_tp : T tp = some 7) : mCi l yX9_image cX9_image 2 (some .boolean) 4 92 1627 D kA M T sz [.ref ro, .int k] (fun r u => (((0 ≤ k.toInt ∧ k.toInt ≤ 2) ∧ r = 1) ∨ (¬ (0 ≤ k.toInt ∧ k.toInt ≤ 2) ∧ r = 0)) ∧ (∀ a t, T a = some t → u.2 a = some t) ∧ ∀ a, a ≠ im → a < sz → u.1 a = M a) := by
  unfold mCi
  refine start_W (by decide) (Nat.le_of_ble_eq_true rfl) ?_
  intro p e s m below meth c ls hC hr hlk hnm hK hH hsz hl
  have hx := hC.1
  have hb := hC.2.1
  have hl : lv_has ls 2 [(0, .ref ro), (1, .int k)] := hl
  have hF : ∀ a, a ≠ im → a < sz → M a = M a := fun a _ _ => rfl
  have hTT : ∀ a t, T a = some t → T a = some t := fun _ _ h => h
  have n_ro_w : ro ≠ w := neM hc_ro hc_w (by simp)
  have n_ro_cs : ro ≠ cs := neM hc_ro hc_cs (by simp)
  have n_ro_im : ro ≠ im := neM hc_ro hc_im (by simp)
  have n_w_ro : w ≠ ro := neM hc_w hc_ro (by simp)
  have n_w_cs : w ≠ cs := neM hc_w hc_cs (by simp)
  have n_w_im : w ≠ im := neM hc_w hc_im (by simp)
  have n_cs_ro : cs ≠ ro := neM hc_cs hc_ro (by simp)
  have n_cs_w : cs ≠ w := neM hc_cs hc_w (by simp)
  have n_cs_im : cs ≠ im := neM hc_cs hc_im (by simp)
  have n_im_ro : im ≠ ro := neM hc_im hc_ro (by simp)
  have n_im_w : im ≠ w := neM hc_im hc_w (by simp)
  have n_im_cs : im ≠ cs := neM hc_im hc_cs (by simp)
  refine lv_iload_n hx hb dX9_image_0 rfl (lv_at hl 1 rfl) ?_
  refine jif_lt (tgt := 9) hx hb dX9_image_1 (by decide) (fun cq1_ => ?_) (fun cq1_ => ?_)
  · skip
    have cq1_ : k.toInt < 0 := cq1_
    refine lv_iconst (v := 0) hx hb dX9_image_9 (by decide) ?_
    exact ret_z hC hr hlk hK hH (by first | exact Or.inl rfl | exact Or.inr rfl) (⟨Or.inr ⟨by omega, rfl⟩, hTT, hF⟩) (Nat.le_of_ble_eq_true rfl) (Nat.le_of_ble_eq_true rfl) dX9_image_10
  · skip
    have cq1_ : 0 ≤ k.toInt := cq1_
    refine lv_iload_n hx hb dX9_image_4 rfl (lv_at hl 1 rfl) ?_
    refine lv_iconst (v := 3) hx hb dX9_image_5 (by decide) ?_
    refine jic_lt (tgt := 11) hx hb dX9_image_6 (by decide) (fun cq2_ => ?_) (fun cq2_ => ?_)
    · skip
      have cq2_ : k.toInt < 3 := cq2_
      refine lv_aload_n hx hb dX9_image_11 rfl (lv_at hl 0 rfl) ?_
      refine xg hC hK hH flX9_16 hc_ro rfl dX9_image_12 ?_
      refine lv_iload_n hx hb dX9_image_15 rfl (lv_at hl 1 rfl) ?_
      refine xqld (ck := 6) hC hK hH rfl hc_im (iIn (by omega) (by omega)) dX9_image_16 ?_
      refine lv_qn rfl ?_
      refine lv_ifnonnullN hx hb dX9_image_17 ?_
      refine lv_aload_n hx hb dX9_image_20 rfl (lv_at hl 0 rfl) ?_
      refine xg hC hK hH flX9_16 hc_ro rfl dX9_image_21 ?_
      refine lv_iload_n hx hb dX9_image_24 rfl (lv_at hl 1 rfl) ?_
      refine ynew hC hK hH nlX9_9 (Nat.le_of_ble_eq_true rfl) (Nat.le_of_ble_eq_true rfl) dX9_image_25 (fun qq3_ Hq_ Mq4_ e_qq3_ hz nM_qq3_ nT_qq3_ hc_qq3_ hfr hN => ?_)
      have g_qq3_ : sz ≤ qq3_ := by rw [← hsz, e_qq3_]; exact hH.2.1.1
      have n_ro_qq3_ : ro ≠ qq3_ := neN hc_ro nM_qq3_
      have n_qq3__ro : qq3_ ≠ ro := Ne.symm n_ro_qq3_
      have n_w_qq3_ : w ≠ qq3_ := neN hc_w nM_qq3_
      have n_qq3__w : qq3_ ≠ w := Ne.symm n_w_qq3_
      have n_cs_qq3_ : cs ≠ qq3_ := neN hc_cs nM_qq3_
      have n_qq3__cs : qq3_ ≠ cs := Ne.symm n_cs_qq3_
      have n_im_qq3_ : im ≠ qq3_ := neN hc_im nM_qq3_
      have n_qq3__im : qq3_ ≠ im := Ne.symm n_im_qq3_
      have hH := hN
      have hc_qq3_ : Mq4_ qq3_ = some (.inr (6, [.int 0, .int 0, .int 0, .int 0, .int 0, .int 0, .int 0, .int 0, .null, .null, .null])) := hc_qq3_
      have hc_ro : Mq4_ ro = some (.inr (7, [.ref w, .ref im, .ref rd, .ref rc, .ref cu])) := (hfr ro n_ro_qq3_).trans hc_ro
      have hc_w : Mq4_ w = some (.inr (6, [.int 0, .int 2, .int 0, .int 0, .int 0, .int 0, .int 0, .int (-1), .ref cs, .ref bs, .ref tp])) := (hfr w n_w_qq3_).trans hc_w
      have hc_cs : Mq4_ cs = some (.inl (kA 0, 8, .inl (c100 f))) := (hfr cs n_cs_qq3_).trans hc_cs
      have hc_im : Mq4_ im = some (.inl (kA 6, 3, .inr (.inr (.inr (.inr (fun _ => none)))))) := (hfr im n_im_qq3_).trans hc_im
      have hF : ∀ a, a ≠ im → a < sz → Mq4_ a = M a := fun a h0 h1 => (hfr a (Nat.ne_of_lt (Nat.lt_of_lt_of_le h1 g_qq3_))).trans (hF a h0 h1)
      refine lv_dup hx hb dX9_image_28 rfl ?_
      have lt_qq3_ : qq3_ < Array.size Hq_ := hH.1.ltM (by rw [hc_qq3_]; simp)
      have gH : sz ≤ Array.size Hq_ := by rw [← hsz]; exact hH.2.1.1
      have lt_ro : ro < Array.size Hq_ := hH.1.ltM (by rw [hc_ro]; simp)
      have lt_w : w < Array.size Hq_ := hH.1.ltM (by rw [hc_w]; simp)
      have lt_cs : cs < Array.size Hq_ := hH.1.ltM (by rw [hc_cs]; simp)
      have lt_im : im < Array.size Hq_ := hH.1.ltM (by rw [hc_im]; simp)
      have lt_qq3_ : qq3_ < Array.size Hq_ := hH.1.ltM (by rw [hc_qq3_]; simp)
      refine goV hK hH (runI (As := []) (rest := [.ref qq3_, .int k, .ref im]) hC hK hH (c_X8_init hc_qq3_ lt_qq3_) mlX9_11 ⟨⟨Nat.le_of_ble_eq_true rfl, Nat.le_of_ble_eq_true rfl⟩, Nat.le_of_ble_eq_true rfl, Nat.le_of_ble_eq_true rfl⟩ rfl hl.1 rfl (Nat.le_of_ble_eq_true rfl) dX9_image_29) (fun Mq5_ Tq6_ Hq_ lcq_ hP hz hH => ?_)
      try dsimp only at hP
      obtain ⟨csq7_, bsq8_, tpq9_, hc_qq3_, hc_csq7_, t_bsq8_, t_tpq9_, g_csq7_, g_bsq8_, g_tpq9_, hsub, hfr⟩ := hP
      have n_ro_csq7_ : ro ≠ csq7_ := Nat.ne_of_lt (Nat.lt_of_lt_of_le lt_ro g_csq7_)
      have n_csq7__ro : csq7_ ≠ ro := Ne.symm n_ro_csq7_
      have n_w_csq7_ : w ≠ csq7_ := Nat.ne_of_lt (Nat.lt_of_lt_of_le lt_w g_csq7_)
      have n_csq7__w : csq7_ ≠ w := Ne.symm n_w_csq7_
      have n_cs_csq7_ : cs ≠ csq7_ := Nat.ne_of_lt (Nat.lt_of_lt_of_le lt_cs g_csq7_)
      have n_csq7__cs : csq7_ ≠ cs := Ne.symm n_cs_csq7_
      have n_im_csq7_ : im ≠ csq7_ := Nat.ne_of_lt (Nat.lt_of_lt_of_le lt_im g_csq7_)
      have n_csq7__im : csq7_ ≠ im := Ne.symm n_im_csq7_
      have n_qq3__csq7_ : qq3_ ≠ csq7_ := Nat.ne_of_lt (Nat.lt_of_lt_of_le lt_qq3_ g_csq7_)
      have n_csq7__qq3_ : csq7_ ≠ qq3_ := Ne.symm n_qq3__csq7_
      have n_ro_bsq8_ : ro ≠ bsq8_ := Nat.ne_of_lt (Nat.lt_of_lt_of_le lt_ro g_bsq8_)
      have n_bsq8__ro : bsq8_ ≠ ro := Ne.symm n_ro_bsq8_
      have n_w_bsq8_ : w ≠ bsq8_ := Nat.ne_of_lt (Nat.lt_of_lt_of_le lt_w g_bsq8_)
      have n_bsq8__w : bsq8_ ≠ w := Ne.symm n_w_bsq8_
      have n_cs_bsq8_ : cs ≠ bsq8_ := Nat.ne_of_lt (Nat.lt_of_lt_of_le lt_cs g_bsq8_)
      have n_bsq8__cs : bsq8_ ≠ cs := Ne.symm n_cs_bsq8_
      have n_im_bsq8_ : im ≠ bsq8_ := Nat.ne_of_lt (Nat.lt_of_lt_of_le lt_im g_bsq8_)
      have n_bsq8__im : bsq8_ ≠ im := Ne.symm n_im_bsq8_
      have n_qq3__bsq8_ : qq3_ ≠ bsq8_ := Nat.ne_of_lt (Nat.lt_of_lt_of_le lt_qq3_ g_bsq8_)
      have n_bsq8__qq3_ : bsq8_ ≠ qq3_ := Ne.symm n_qq3__bsq8_
      have n_ro_tpq9_ : ro ≠ tpq9_ := Nat.ne_of_lt (Nat.lt_of_lt_of_le lt_ro g_tpq9_)
      have n_tpq9__ro : tpq9_ ≠ ro := Ne.symm n_ro_tpq9_
      have n_w_tpq9_ : w ≠ tpq9_ := Nat.ne_of_lt (Nat.lt_of_lt_of_le lt_w g_tpq9_)
      have n_tpq9__w : tpq9_ ≠ w := Ne.symm n_w_tpq9_
      have n_cs_tpq9_ : cs ≠ tpq9_ := Nat.ne_of_lt (Nat.lt_of_lt_of_le lt_cs g_tpq9_)
      have n_tpq9__cs : tpq9_ ≠ cs := Ne.symm n_cs_tpq9_
      have n_im_tpq9_ : im ≠ tpq9_ := Nat.ne_of_lt (Nat.lt_of_lt_of_le lt_im g_tpq9_)
      have n_tpq9__im : tpq9_ ≠ im := Ne.symm n_im_tpq9_
      have n_qq3__tpq9_ : qq3_ ≠ tpq9_ := Nat.ne_of_lt (Nat.lt_of_lt_of_le lt_qq3_ g_tpq9_)
      have n_tpq9__qq3_ : tpq9_ ≠ qq3_ := Ne.symm n_qq3__tpq9_
      have hc_ro : Mq5_ ro = some (.inr (7, [.ref w, .ref im, .ref rd, .ref rc, .ref cu])) := (hfr ro n_ro_qq3_ lt_ro).trans hc_ro
      have hc_w : Mq5_ w = some (.inr (6, [.int 0, .int 2, .int 0, .int 0, .int 0, .int 0, .int 0, .int (-1), .ref cs, .ref bs, .ref tp])) := (hfr w n_w_qq3_ lt_w).trans hc_w
      have hc_cs : Mq5_ cs = some (.inl (kA 0, 8, .inl (c100 f))) := (hfr cs n_cs_qq3_ lt_cs).trans hc_cs
      have hc_im : Mq5_ im = some (.inl (kA 6, 3, .inr (.inr (.inr (.inr (fun _ => none)))))) := (hfr im n_im_qq3_ lt_im).trans hc_im
      have ht_tp : Tq6_ tp = some 7 := hsub _ _ ht_tp
      have g_csq7_ : sz ≤ csq7_ := Nat.le_trans gH g_csq7_
      have g_bsq8_ : sz ≤ bsq8_ := Nat.le_trans gH g_bsq8_
      have g_tpq9_ : sz ≤ tpq9_ := Nat.le_trans gH g_tpq9_
      have hTT : ∀ a t, T a = some t → Tq6_ a = some t := fun a t h => hsub _ _ (hTT a t h)
      have hF : ∀ a, a ≠ im → a < sz → Mq5_ a = M a := fun a h0 h1 => (hfr a (Nat.ne_of_lt (Nat.lt_of_lt_of_le h1 g_qq3_)) (Nat.lt_of_lt_of_le h1 gH)).trans (hF a h0 h1)
      refine yqst (ck := 6) (cv := 6) (v := qq3_) hC hK hH rfl rfl hc_im ⟨_, hH.1.1 _ _ hc_qq3_⟩ (iIn (by omega) (by omega)) dX9_image_32 (fun Hq_ lcq_ Mq10_ hc_im hfr hH => ?_)
      have hc_im : Mq10_ im = some (.inl (kA 6, 3, .inr (.inr (.inr (.inr (va_up (fun _ => none) (Int32.toNatClampNeg k) (some qq3_))))))) := hc_im
      have hc_ro : Mq10_ ro = some (.inr (7, [.ref w, .ref im, .ref rd, .ref rc, .ref cu])) := (hfr ro n_ro_im).trans hc_ro
      have hc_w : Mq10_ w = some (.inr (6, [.int 0, .int 2, .int 0, .int 0, .int 0, .int 0, .int 0, .int (-1), .ref cs, .ref bs, .ref tp])) := (hfr w n_w_im).trans hc_w
      have hc_cs : Mq10_ cs = some (.inl (kA 0, 8, .inl (c100 f))) := (hfr cs n_cs_im).trans hc_cs
      have hc_qq3_ : Mq10_ qq3_ = some (.inr (6, [.int 0, .int 2, .int 0, .int 0, .int 0, .int 0, .int 0, .int (-1), .ref csq7_, .ref bsq8_, .ref tpq9_])) := (hfr qq3_ n_qq3__im).trans hc_qq3_
      have hc_csq7_ : Mq10_ csq7_ = some (.inl (kA 0, 8, .inl (c100 (fun _ => 0)))) := (hfr csq7_ n_csq7__im).trans hc_csq7_
      have hF : ∀ a, a ≠ im → a < sz → Mq10_ a = M a := fun a h0 h1 => (hfr a h0).trans (hF a h0 h1)
      refine lv_aload_n hx hb dX9_image_33 rfl (lv_at hl 0 rfl) ?_
      refine xg hC hK hH flX9_16 hc_ro rfl dX9_image_34 ?_
      refine lv_iload_n hx hb dX9_image_37 rfl (lv_at hl 1 rfl) ?_
      refine xqld (ck := 6) hC hK hH rfl hc_im (iIn (by omega) (by omega)) dX9_image_38 ?_
      refine lv_qr (upS _ _ _) ?_
      refine lv_aload_n hx hb dX9_image_39 rfl (lv_at hl 0 rfl) ?_
      refine xg hC hK hH flX9_12 hc_ro rfl dX9_image_40 ?_
      refine goV hK hH (runV (As := [.ref w]) (rest := []) hC hK hH (c_X8_copy hc_qq3_ hc_w hc_csq7_ hc_cs ht_tp t_tpq9_ n_qq3__w n_w_qq3_ n_cs_csq7_ n_csq7__cs) mlX9_343 (rcvM hK hH hc_qq3_ rfl) ⟨⟨Nat.le_of_ble_eq_true rfl, Nat.le_of_ble_eq_true rfl⟩, Nat.le_of_ble_eq_true rfl, Nat.le_of_ble_eq_true rfl⟩ rfl hl.1 rfl (Nat.le_of_ble_eq_true rfl) dX9_image_43) (fun Mq11_ Tq12_ Hq_ lcq_ hP hz hH => ?_)
      try dsimp only at hP
      obtain ⟨(-), eT, hfr⟩ := hP
      have eT := eT.symm; subst eT
      have hc_ro : Mq11_ ro = some (.inr (7, [.ref w, .ref im, .ref rd, .ref rc, .ref cu])) := (hfr ro n_ro_qq3_ n_ro_csq7_).trans hc_ro
      have hc_w : Mq11_ w = some (.inr (6, [.int 0, .int 2, .int 0, .int 0, .int 0, .int 0, .int 0, .int (-1), .ref cs, .ref bs, .ref tp])) := (hfr w n_w_qq3_ n_w_csq7_).trans hc_w
      have hc_cs : Mq11_ cs = some (.inl (kA 0, 8, .inl (c100 f))) := (hfr cs n_cs_qq3_ n_cs_csq7_).trans hc_cs
      have hc_im : Mq11_ im = some (.inl (kA 6, 3, .inr (.inr (.inr (.inr (va_up (fun _ => none) (Int32.toNatClampNeg k) (some qq3_))))))) := (hfr im n_im_qq3_ n_im_csq7_).trans hc_im
      have hF : ∀ a, a ≠ im → a < sz → Mq11_ a = M a := fun a h0 h1 => (hfr a (Nat.ne_of_lt (Nat.lt_of_lt_of_le h1 g_qq3_)) (Nat.ne_of_lt (Nat.lt_of_lt_of_le h1 g_csq7_))).trans (hF a h0 h1)
      refine lv_iconst (v := 1) hx hb dX9_image_46 (by decide) ?_
      exact ret_z hC hr hlk hK hH (by first | exact Or.inl rfl | exact Or.inr rfl) (⟨Or.inl ⟨by omega, rfl⟩, hTT, hF⟩) (Nat.le_of_ble_eq_true rfl) (Nat.le_of_ble_eq_true rfl) dX9_image_47
    · skip
      have cq2_ : 3 ≤ k.toInt := cq2_
      refine lv_iconst (v := 0) hx hb dX9_image_9 (by decide) ?_
      exact ret_z hC hr hlk hK hH (by first | exact Or.inl rfl | exact Or.inr rfl) (⟨Or.inr ⟨by omega, rfl⟩, hTT, hF⟩) (Nat.le_of_ble_eq_true rfl) (Nat.le_of_ble_eq_true rfl) dX9_image_10
