theorem cpX8_54 : CPL RX8 54 := ⟨TB_t 945 (by decide +kernel) rfl, TB_t 562 (by decide +kernel) rfl, TB_t 561 (by decide +kernel) rfl, TB_t 19 (by decide +kernel) rfl⟩
set_option maxHeartbeats 4000000 in
set_option maxRecDepth 100000 in
theorem c_X8_copy {l : Launch} {D : va_G} {kA : Nat → ClassId} {M : mM} {T : mT} {sz : Nat} {v cs2 bs2 tp2 w cs bs tp : Nat} {f g : Nat → Int32} (hc_v : M v = some (.inr (6, [.int 0, .int 2, .int 0, .int 0, .int 0, .int 0, .int 0, .int (-1), .ref cs2, .ref bs2, .ref tp2]))) (hc_w : M w = some (.inr (6, [.int 0, .int 2, .int 0, .int 0, .int 0, .int 0, .int 0, .int (-1), .ref cs, .ref bs, .ref tp]))) (hc_cs2 : M cs2 = some (.inl (kA 0, 8, .inl g))) (hc_cs : M cs = some (.inl (kA 0, 8, .inl f))) (ht_tp : T tp = some 7) (ht_tp2 : T tp2 = some 7) (n_v_w : v ≠ w) (n_w_v : w ≠ v) (n_cs_cs2 : cs ≠ cs2) (n_cs2_cs : cs2 ≠ cs) : mCv l yX8_copy cX8_copy 3 1 0 0 D kA M T sz [.ref v, .ref w] (fun u => (True) ∧ u.2 = T ∧ (∀ q, q ≠ v → q ≠ cs2 → u.1 q = M q)) := by
  unfold mCv
  refine start_W (by decide) (Nat.le_of_ble_eq_true rfl) ?_
  intro p e s m below meth c ls hC hr hlk hnm hK hH hsz hl
  have hx := hC.1
  have hb := hC.2.1
  have hl : lv_has ls 3 [(0, .ref v), (1, .ref w)] := hl
  have hF : ∀ q, q ≠ v → q ≠ cs2 → M q = M q := fun q _ _ => rfl
  have n_v_cs2 : v ≠ cs2 := neM hc_v hc_cs2 (by simp)
  have n_v_cs : v ≠ cs := neM hc_v hc_cs (by simp)
  have n_w_cs2 : w ≠ cs2 := neM hc_w hc_cs2 (by simp)
  have n_w_cs : w ≠ cs := neM hc_w hc_cs (by simp)
  have n_cs2_v : cs2 ≠ v := neM hc_cs2 hc_v (by simp)
  have n_cs2_w : cs2 ≠ w := neM hc_cs2 hc_w (by simp)
  have n_cs_v : cs ≠ v := neM hc_cs hc_v (by simp)
  have n_cs_w : cs ≠ w := neM hc_cs hc_w (by simp)
  refine lv_aload_n hx hb dX8_copy_0 rfl (lv_at hl 0 rfl) ?_
  refine lv_aload_n hx hb dX8_copy_1 rfl (lv_at hl 1 rfl) ?_
  refine xg hC hK hH flX8_29 hc_w rfl dX8_copy_2 ?_
  refine yp (v := .int 0) hC hK hH flX8_29 hc_v rfl rfl (Nat.le_of_ble_eq_true rfl) dX8_copy_5 (fun H locs M1 hc_v hfr hH => ?_)
  have hc_v : M1 v = some (.inr (6, [.int 0, .int 2, .int 0, .int 0, .int 0, .int 0, .int 0, .int (-1), .ref cs2, .ref bs2, .ref tp2])) := hc_v
  have hc_w : M1 w = some (.inr (6, [.int 0, .int 2, .int 0, .int 0, .int 0, .int 0, .int 0, .int (-1), .ref cs, .ref bs, .ref tp])) := (hfr w n_w_v).trans hc_w
  have hc_cs2 : M1 cs2 = some (.inl (kA 0, 8, .inl g)) := (hfr cs2 n_cs2_v).trans hc_cs2
  have hc_cs : M1 cs = some (.inl (kA 0, 8, .inl f)) := (hfr cs n_cs_v).trans hc_cs
  have hF : ∀ q, q ≠ v → q ≠ cs2 → M1 q = M q := fun q h0 h1 => (hfr q h0).trans (hF q h0 h1)
  refine lv_aload_n hx hb dX8_copy_8 rfl (lv_at hl 0 rfl) ?_
  refine lv_aload_n hx hb dX8_copy_9 rfl (lv_at hl 1 rfl) ?_
  refine xg hC hK hH flX8_33 hc_w rfl dX8_copy_10 ?_
  refine yp (v := .int 2) hC hK hH flX8_33 hc_v rfl rfl (Nat.le_of_ble_eq_true rfl) dX8_copy_13 (fun H locs M2 hc_v hfr hH => ?_)
  have hc_v : M2 v = some (.inr (6, [.int 0, .int 2, .int 0, .int 0, .int 0, .int 0, .int 0, .int (-1), .ref cs2, .ref bs2, .ref tp2])) := hc_v
  have hc_w : M2 w = some (.inr (6, [.int 0, .int 2, .int 0, .int 0, .int 0, .int 0, .int 0, .int (-1), .ref cs, .ref bs, .ref tp])) := (hfr w n_w_v).trans hc_w
  have hc_cs2 : M2 cs2 = some (.inl (kA 0, 8, .inl g)) := (hfr cs2 n_cs2_v).trans hc_cs2
  have hc_cs : M2 cs = some (.inl (kA 0, 8, .inl f)) := (hfr cs n_cs_v).trans hc_cs
  have hF : ∀ q, q ≠ v → q ≠ cs2 → M2 q = M q := fun q h0 h1 => (hfr q h0).trans (hF q h0 h1)
  refine lv_aload_n hx hb dX8_copy_16 rfl (lv_at hl 0 rfl) ?_
  refine lv_aload_n hx hb dX8_copy_17 rfl (lv_at hl 1 rfl) ?_
  refine xg hC hK hH flX8_36 hc_w rfl dX8_copy_18 ?_
  refine yp (v := .int 0) hC hK hH flX8_36 hc_v rfl rfl (Nat.le_of_ble_eq_true rfl) dX8_copy_21 (fun H locs M3 hc_v hfr hH => ?_)
  have hc_v : M3 v = some (.inr (6, [.int 0, .int 2, .int 0, .int 0, .int 0, .int 0, .int 0, .int (-1), .ref cs2, .ref bs2, .ref tp2])) := hc_v
  have hc_w : M3 w = some (.inr (6, [.int 0, .int 2, .int 0, .int 0, .int 0, .int 0, .int 0, .int (-1), .ref cs, .ref bs, .ref tp])) := (hfr w n_w_v).trans hc_w
  have hc_cs2 : M3 cs2 = some (.inl (kA 0, 8, .inl g)) := (hfr cs2 n_cs2_v).trans hc_cs2
  have hc_cs : M3 cs = some (.inl (kA 0, 8, .inl f)) := (hfr cs n_cs_v).trans hc_cs
  have hF : ∀ q, q ≠ v → q ≠ cs2 → M3 q = M q := fun q h0 h1 => (hfr q h0).trans (hF q h0 h1)
  refine lv_aload_n hx hb dX8_copy_24 rfl (lv_at hl 0 rfl) ?_
  refine lv_aload_n hx hb dX8_copy_25 rfl (lv_at hl 1 rfl) ?_
  refine xg hC hK hH flX8_39 hc_w rfl dX8_copy_26 ?_
  refine yp (v := .int 0) hC hK hH flX8_39 hc_v rfl rfl (Nat.le_of_ble_eq_true rfl) dX8_copy_29 (fun H locs M4 hc_v hfr hH => ?_)
  have hc_v : M4 v = some (.inr (6, [.int 0, .int 2, .int 0, .int 0, .int 0, .int 0, .int 0, .int (-1), .ref cs2, .ref bs2, .ref tp2])) := hc_v
  have hc_w : M4 w = some (.inr (6, [.int 0, .int 2, .int 0, .int 0, .int 0, .int 0, .int 0, .int (-1), .ref cs, .ref bs, .ref tp])) := (hfr w n_w_v).trans hc_w
  have hc_cs2 : M4 cs2 = some (.inl (kA 0, 8, .inl g)) := (hfr cs2 n_cs2_v).trans hc_cs2
  have hc_cs : M4 cs = some (.inl (kA 0, 8, .inl f)) := (hfr cs n_cs_v).trans hc_cs
  have hF : ∀ q, q ≠ v → q ≠ cs2 → M4 q = M q := fun q h0 h1 => (hfr q h0).trans (hF q h0 h1)
  refine lv_aload_n hx hb dX8_copy_32 rfl (lv_at hl 0 rfl) ?_
  refine lv_aload_n hx hb dX8_copy_33 rfl (lv_at hl 1 rfl) ?_
  refine xg hC hK hH flX8_42 hc_w rfl dX8_copy_34 ?_
  refine yp (v := .int 0) hC hK hH flX8_42 hc_v rfl rfl (Nat.le_of_ble_eq_true rfl) dX8_copy_37 (fun H locs M5 hc_v hfr hH => ?_)
  have hc_v : M5 v = some (.inr (6, [.int 0, .int 2, .int 0, .int 0, .int 0, .int 0, .int 0, .int (-1), .ref cs2, .ref bs2, .ref tp2])) := hc_v
  have hc_w : M5 w = some (.inr (6, [.int 0, .int 2, .int 0, .int 0, .int 0, .int 0, .int 0, .int (-1), .ref cs, .ref bs, .ref tp])) := (hfr w n_w_v).trans hc_w
  have hc_cs2 : M5 cs2 = some (.inl (kA 0, 8, .inl g)) := (hfr cs2 n_cs2_v).trans hc_cs2
  have hc_cs : M5 cs = some (.inl (kA 0, 8, .inl f)) := (hfr cs n_cs_v).trans hc_cs
  have hF : ∀ q, q ≠ v → q ≠ cs2 → M5 q = M q := fun q h0 h1 => (hfr q h0).trans (hF q h0 h1)
  refine lv_aload_n hx hb dX8_copy_40 rfl (lv_at hl 0 rfl) ?_
  refine lv_aload_n hx hb dX8_copy_41 rfl (lv_at hl 1 rfl) ?_
  refine xg hC hK hH flX8_45 hc_w rfl dX8_copy_42 ?_
  refine yp (v := .int 0) hC hK hH flX8_45 hc_v rfl rfl (Nat.le_of_ble_eq_true rfl) dX8_copy_45 (fun H locs M6 hc_v hfr hH => ?_)
  have hc_v : M6 v = some (.inr (6, [.int 0, .int 2, .int 0, .int 0, .int 0, .int 0, .int 0, .int (-1), .ref cs2, .ref bs2, .ref tp2])) := hc_v
  have hc_w : M6 w = some (.inr (6, [.int 0, .int 2, .int 0, .int 0, .int 0, .int 0, .int 0, .int (-1), .ref cs, .ref bs, .ref tp])) := (hfr w n_w_v).trans hc_w
  have hc_cs2 : M6 cs2 = some (.inl (kA 0, 8, .inl g)) := (hfr cs2 n_cs2_v).trans hc_cs2
  have hc_cs : M6 cs = some (.inl (kA 0, 8, .inl f)) := (hfr cs n_cs_v).trans hc_cs
  have hF : ∀ q, q ≠ v → q ≠ cs2 → M6 q = M q := fun q h0 h1 => (hfr q h0).trans (hF q h0 h1)
  refine lv_aload_n hx hb dX8_copy_48 rfl (lv_at hl 0 rfl) ?_
  refine lv_aload_n hx hb dX8_copy_49 rfl (lv_at hl 1 rfl) ?_
  refine xg hC hK hH flX8_48 hc_w rfl dX8_copy_50 ?_
  refine yp (v := .int 0) hC hK hH flX8_48 hc_v rfl rfl (Nat.le_of_ble_eq_true rfl) dX8_copy_53 (fun H locs M7 hc_v hfr hH => ?_)
  have hc_v : M7 v = some (.inr (6, [.int 0, .int 2, .int 0, .int 0, .int 0, .int 0, .int 0, .int (-1), .ref cs2, .ref bs2, .ref tp2])) := hc_v
  have hc_w : M7 w = some (.inr (6, [.int 0, .int 2, .int 0, .int 0, .int 0, .int 0, .int 0, .int (-1), .ref cs, .ref bs, .ref tp])) := (hfr w n_w_v).trans hc_w
  have hc_cs2 : M7 cs2 = some (.inl (kA 0, 8, .inl g)) := (hfr cs2 n_cs2_v).trans hc_cs2
  have hc_cs : M7 cs = some (.inl (kA 0, 8, .inl f)) := (hfr cs n_cs_v).trans hc_cs
  have hF : ∀ q, q ≠ v → q ≠ cs2 → M7 q = M q := fun q h0 h1 => (hfr q h0).trans (hF q h0 h1)
  refine lv_aload_n hx hb dX8_copy_56 rfl (lv_at hl 0 rfl) ?_
  refine lv_aload_n hx hb dX8_copy_57 rfl (lv_at hl 1 rfl) ?_
  refine xg hC hK hH flX8_51 hc_w rfl dX8_copy_58 ?_
  refine yp (v := .int (-1)) hC hK hH flX8_51 hc_v rfl rfl (Nat.le_of_ble_eq_true rfl) dX8_copy_61 (fun H locs M8 hc_v hfr hH => ?_)
  have hc_v : M8 v = some (.inr (6, [.int 0, .int 2, .int 0, .int 0, .int 0, .int 0, .int 0, .int (-1), .ref cs2, .ref bs2, .ref tp2])) := hc_v
  have hc_w : M8 w = some (.inr (6, [.int 0, .int 2, .int 0, .int 0, .int 0, .int 0, .int 0, .int (-1), .ref cs, .ref bs, .ref tp])) := (hfr w n_w_v).trans hc_w
  have hc_cs2 : M8 cs2 = some (.inl (kA 0, 8, .inl g)) := (hfr cs2 n_cs2_v).trans hc_cs2
  have hc_cs : M8 cs = some (.inl (kA 0, 8, .inl f)) := (hfr cs n_cs_v).trans hc_cs
  have hF : ∀ q, q ≠ v → q ≠ cs2 → M8 q = M q := fun q h0 h1 => (hfr q h0).trans (hF q h0 h1)
  refine lv_aload_n hx hb dX8_copy_64 rfl (lv_at hl 1 rfl) ?_
  refine xg hC hK hH flX8_9 hc_w rfl dX8_copy_65 ?_
  refine lv_iconst (v := 0) hx hb dX8_copy_68 (by decide) ?_
  refine lv_aload_n hx hb dX8_copy_69 rfl (lv_at hl 0 rfl) ?_
  refine xg hC hK hH flX8_9 hc_v rfl dX8_copy_70 ?_
  refine lv_iconst (v := 0) hx hb dX8_copy_73 (by decide) ?_
  refine lv_bipush (v := 8) hx hb dX8_copy_74 (by decide) ?_
  refine ycpy hC hK hH hl.1 cpX8_54 hc_cs hc_cs2 (by decide) (by decide) (by decide) (Nat.le_of_ble_eq_true rfl) (Nat.le_of_ble_eq_true rfl) (Nat.le_of_ble_eq_true rfl) (Nat.le_of_ble_eq_true rfl) dX8_copy_76 (fun H locs M9 hc_cs2 hfr hH => ?_)
  have hc_cs2 : M9 cs2 = some (.inl (kA 0, 8, .inl (va_cpy f g (Int32.toNatClampNeg 0) (Int32.toNatClampNeg 0) (Int32.toNatClampNeg 8)))) := hc_cs2
  have hc_v : M9 v = some (.inr (6, [.int 0, .int 2, .int 0, .int 0, .int 0, .int 0, .int 0, .int (-1), .ref cs2, .ref bs2, .ref tp2])) := (hfr v n_v_cs2).trans hc_v
  have hc_w : M9 w = some (.inr (6, [.int 0, .int 2, .int 0, .int 0, .int 0, .int 0, .int 0, .int (-1), .ref cs, .ref bs, .ref tp])) := (hfr w n_w_cs2).trans hc_w
  have hc_cs : M9 cs = some (.inl (kA 0, 8, .inl f)) := (hfr cs n_cs_cs2).trans hc_cs
  have hF : ∀ q, q ≠ v → q ≠ cs2 → M9 q = M q := fun q h0 h1 => (hfr q h1).trans (hF q h0 h1)
  refine lv_aload_n hx hb dX8_copy_79 rfl (lv_at hl 1 rfl) ?_
  refine xg hC hK hH flX8_21 hc_w rfl dX8_copy_80 ?_
  refine lv_iconst (v := 0) hx hb dX8_copy_83 (by decide) ?_
  refine lv_aload_n hx hb dX8_copy_84 rfl (lv_at hl 0 rfl) ?_
  refine xg hC hK hH flX8_21 hc_v rfl dX8_copy_85 ?_
  refine lv_iconst (v := 0) hx hb dX8_copy_88 (by decide) ?_
  refine lv_sipush (v := 600) hx hb dX8_copy_89 (by decide) ?_
  refine tcpy hC hK hH hl.1 cpX8_54 ht_tp ht_tp2 rfl rfl rfl (fun _ h1 h2 => fit8 h1 h2) (by decide) (by decide) (by decide) (Nat.le_of_ble_eq_true rfl) (Nat.le_of_ble_eq_true rfl) (Nat.le_of_ble_eq_true rfl) (Nat.le_of_ble_eq_true rfl) dX8_copy_92 (fun H locs hH => ?_)
  refine lv_iconst (v := 0) hx hb dX8_copy_95 (by decide) ?_
  refine lv_istore_n (lv' := [(2, .int 0), (0, .ref v), (1, .ref w)]) hx hb dX8_copy_96 rfl hl (by decide) rfl (fun ls hl => ?_)
  refine lv_iload_n hx hb dX8_copy_97 rfl (lv_at hl 0 rfl) ?_
  refine lv_iconst (v := 4) hx hb dX8_copy_98 (by decide) ?_
  refine jic_ge (tgt := 131) hx hb dX8_copy_99 (by decide) (fun c10 => absurd c10 (by decide)) (fun c10 => ?_)
  refine lv_iload_n hx hb dX8_copy_102 rfl (lv_at hl 0 rfl) ?_
  refine lv_aload_n hx hb dX8_copy_103 rfl (lv_at hl 2 rfl) ?_
  refine xg hC hK hH flX8_36 hc_w rfl dX8_copy_104 ?_
  refine jic_ge (tgt := 131) hx hb dX8_copy_107 (by decide) (fun c11 => ?_) (fun c11 => absurd c11 (by decide))
  exact ret_v hC hr hlk hK hH (⟨trivial, rfl, hF⟩) (Nat.le_of_ble_eq_true rfl) (Nat.le_of_ble_eq_true rfl) dX8_copy_131
set_option maxHeartbeats 4000000 in
set_option maxRecDepth 100000 in
theorem c_X9_again {l : Launch} {D : va_G} {kA : Nat → ClassId} {M : mM} {T : mT} {sz : Nat} {ro im rd rc cu : Nat} {w cs bs tp : Nat} {k : Int32} (hc_ro : M ro = some (.inr (7, [.ref w, .ref im, .ref rd, .ref rc, .ref cu]))) (hc_w : M w = some (.inr (6, [.int 0, .int 2, .int 0, .int 0, .int 0, .int 0, .int 0, .int (-1), .ref cs, .ref bs, .ref tp]))) (hc_im : M im = some (.inl (kA 6, 3, .inr (.inr (.inr (.inr (fun _ => none))))))) : mCi l yX9_again cX9_again 2 (some .boolean) 0 0 0 D kA M T sz [.ref ro, .int k] (fun r u => (r = 0) ∧ u.2 = T ∧ u.1 = M) := by
  unfold mCi
  refine start_W (by decide) (Nat.le_of_ble_eq_true rfl) ?_
  intro p e s m below meth c ls hC hr hlk hnm hK hH hsz hl
  have hx := hC.1
  have hb := hC.2.1
  have hl : lv_has ls 2 [(0, .ref ro), (1, .int k)] := hl
  have n_ro_w : ro ≠ w := neM hc_ro hc_w (by simp)
  have n_ro_im : ro ≠ im := neM hc_ro hc_im (by simp)
  have n_w_ro : w ≠ ro := neM hc_w hc_ro (by simp)
  have n_w_im : w ≠ im := neM hc_w hc_im (by simp)
  have n_im_ro : im ≠ ro := neM hc_im hc_ro (by simp)
  have n_im_w : im ≠ w := neM hc_im hc_w (by simp)
  refine lv_iload_n hx hb dX9_again_0 rfl (lv_at hl 1 rfl) ?_
  refine jif_lt (tgt := 18) hx hb dX9_again_1 (by decide) (fun c1 => ?_) (fun c1 => ?_)
  · skip
    have c1 : k.toInt < 0 := c1
    refine lv_iconst (v := 0) hx hb dX9_again_18 (by decide) ?_
    exact ret_z hC hr hlk hK hH (by first | exact Or.inl rfl | exact Or.inr rfl | assumption) (⟨rfl, rfl, rfl⟩) (Nat.le_of_ble_eq_true rfl) (Nat.le_of_ble_eq_true rfl) dX9_again_19
  · skip
    have c1 : 0 ≤ k.toInt := c1
    refine lv_iload_n hx hb dX9_again_4 rfl (lv_at hl 1 rfl) ?_
    refine lv_iconst (v := 3) hx hb dX9_again_5 (by decide) ?_
    refine jic_ge (tgt := 18) hx hb dX9_again_6 (by decide) (fun c2 => ?_) (fun c2 => ?_)
    · skip
      have c2 : 3 ≤ k.toInt := c2
      refine lv_iconst (v := 0) hx hb dX9_again_18 (by decide) ?_
      exact ret_z hC hr hlk hK hH (by first | exact Or.inl rfl | exact Or.inr rfl | assumption) (⟨rfl, rfl, rfl⟩) (Nat.le_of_ble_eq_true rfl) (Nat.le_of_ble_eq_true rfl) dX9_again_19
    · skip
      have c2 : k.toInt < 3 := c2
      refine lv_aload_n hx hb dX9_again_9 rfl (lv_at hl 0 rfl) ?_
      refine xg hC hK hH flX9_16 hc_ro rfl dX9_again_10 ?_
      refine lv_iload_n hx hb dX9_again_13 rfl (lv_at hl 1 rfl) ?_
      refine xqld (ck := 6) hC hK hH rfl hc_im (iIn (by omega) (by omega)) dX9_again_14 ?_
      refine lv_qn rfl ?_
      refine lv_ifnonnullN hx hb dX9_again_15 ?_
      refine lv_iconst (v := 0) hx hb dX9_again_18 (by decide) ?_
      exact ret_z hC hr hlk hK hH (by first | exact Or.inl rfl | exact Or.inr rfl | assumption) (⟨rfl, rfl, rfl⟩) (Nat.le_of_ble_eq_true rfl) (Nat.le_of_ble_eq_true rfl) dX9_again_19
set_option maxHeartbeats 4000000 in
set_option maxRecDepth 100000 in
theorem c_X9_image {l : Launch} {D : va_G} {kA : Nat → ClassId} {M : mM} {T : mT} {sz : Nat} {ro im rd rc cu : Nat} {w cs bs tp : Nat} {k : Int32} {f : Nat → Int32} (hc_ro : M ro = some (.inr (7, [.ref w, .ref im, .ref rd, .ref rc, .ref cu]))) (hc_w : M w = some (.inr (6, [.int 0, .int 2, .int 0, .int 0, .int 0, .int 0, .int 0, .int (-1), .ref cs, .ref bs, .ref tp]))) (hc_cs : M cs = some (.inl (kA 0, 8, .inl (c100 f)))) (hc_im : M im = some (.inl (kA 6, 3, .inr (.inr (.inr (.inr (fun _ => none))))))) (ht_tp : T tp = some 7) : mCi l yX9_image cX9_image 2 (some .boolean) 4 92 1627 D kA M T sz [.ref ro, .int k] (fun r u => (((0 ≤ k.toInt ∧ k.toInt ≤ 2) ∧ r = 1) ∨ (¬ (0 ≤ k.toInt ∧ k.toInt ≤ 2) ∧ r = 0)) ∧ (∀ a t, T a = some t → u.2 a = some t) ∧ ∀ a, a ≠ im → a < sz → u.1 a = M a) := by
  unfold mCi
  refine start_W (by decide) (Nat.le_of_ble_eq_true rfl) ?_
  intro p e s m below meth c ls hC hr hlk hnm hK hH hsz hl
  have hx := hC.1
  have hb := hC.2.1
  have hl : lv_has ls 2 [(0, .ref ro), (1, .int k)] := hl
  have hF : ∀ a, a ≠ im → a < sz → M a = M a := fun a _ _ => rfl
  have hTT : ∀ a t, T a = some t → T a = some t := fun _ _ h => h
  have n_ro_w : ro ≠ w := neM hc_ro hc_w (by simp)
  have n_ro_cs : ro ≠ cs := neM hc_ro hc_cs (by simp)
  have n_ro_im : ro ≠ im := neM hc_ro hc_im (by simp)
  have n_w_ro : w ≠ ro := neM hc_w hc_ro (by simp)
  have n_w_cs : w ≠ cs := neM hc_w hc_cs (by simp)
  have n_w_im : w ≠ im := neM hc_w hc_im (by simp)
  have n_cs_ro : cs ≠ ro := neM hc_cs hc_ro (by simp)
  have n_cs_w : cs ≠ w := neM hc_cs hc_w (by simp)
  have n_cs_im : cs ≠ im := neM hc_cs hc_im (by simp)
  have n_im_ro : im ≠ ro := neM hc_im hc_ro (by simp)
  have n_im_w : im ≠ w := neM hc_im hc_w (by simp)
  have n_im_cs : im ≠ cs := neM hc_im hc_cs (by simp)
  refine lv_iload_n hx hb dX9_image_0 rfl (lv_at hl 1 rfl) ?_
  refine jif_lt (tgt := 9) hx hb dX9_image_1 (by decide) (fun c1 => ?_) (fun c1 => ?_)
  · skip
    have c1 : k.toInt < 0 := c1
    refine lv_iconst (v := 0) hx hb dX9_image_9 (by decide) ?_
    exact ret_z hC hr hlk hK hH (by first | exact Or.inl rfl | exact Or.inr rfl) (⟨Or.inr ⟨by omega, rfl⟩, hTT, hF⟩) (Nat.le_of_ble_eq_true rfl) (Nat.le_of_ble_eq_true rfl) dX9_image_10
  · skip
    have c1 : 0 ≤ k.toInt := c1
    refine lv_iload_n hx hb dX9_image_4 rfl (lv_at hl 1 rfl) ?_
    refine lv_iconst (v := 3) hx hb dX9_image_5 (by decide) ?_
    refine jic_lt (tgt := 11) hx hb dX9_image_6 (by decide) (fun c2 => ?_) (fun c2 => ?_)
    · skip
      have c2 : k.toInt < 3 := c2
      refine lv_aload_n hx hb dX9_image_11 rfl (lv_at hl 0 rfl) ?_
      refine xg hC hK hH flX9_16 hc_ro rfl dX9_image_12 ?_
      refine lv_iload_n hx hb dX9_image_15 rfl (lv_at hl 1 rfl) ?_
      refine xqld (ck := 6) hC hK hH rfl hc_im (iIn (by omega) (by omega)) dX9_image_16 ?_
      refine lv_qn rfl ?_
      refine lv_ifnonnullN hx hb dX9_image_17 ?_
      refine lv_aload_n hx hb dX9_image_20 rfl (lv_at hl 0 rfl) ?_
      refine xg hC hK hH flX9_16 hc_ro rfl dX9_image_21 ?_
      refine lv_iload_n hx hb dX9_image_24 rfl (lv_at hl 1 rfl) ?_
      refine ynew hC hK hH nlX9_9 (Nat.le_of_ble_eq_true rfl) (Nat.le_of_ble_eq_true rfl) dX9_image_25 (fun q3 H M4 e_q3 hz nM_q3 nT_q3 hc_q3 hfr hN => ?_)
      have g_q3 : sz ≤ q3 := by rw [← hsz, e_q3]; exact hH.2.1.1
      have n_ro_q3 : ro ≠ q3 := neN hc_ro nM_q3
      have n_q3_ro : q3 ≠ ro := Ne.symm n_ro_q3
      have n_w_q3 : w ≠ q3 := neN hc_w nM_q3
      have n_q3_w : q3 ≠ w := Ne.symm n_w_q3
      have n_cs_q3 : cs ≠ q3 := neN hc_cs nM_q3
      have n_q3_cs : q3 ≠ cs := Ne.symm n_cs_q3
      have n_im_q3 : im ≠ q3 := neN hc_im nM_q3
      have n_q3_im : q3 ≠ im := Ne.symm n_im_q3
      have hH := hN
      have hc_q3 : M4 q3 = some (.inr (6, [.int 0, .int 0, .int 0, .int 0, .int 0, .int 0, .int 0, .int 0, .null, .null, .null])) := hc_q3
      have hc_ro : M4 ro = some (.inr (7, [.ref w, .ref im, .ref rd, .ref rc, .ref cu])) := (hfr ro n_ro_q3).trans hc_ro
      have hc_w : M4 w = some (.inr (6, [.int 0, .int 2, .int 0, .int 0, .int 0, .int 0, .int 0, .int (-1), .ref cs, .ref bs, .ref tp])) := (hfr w n_w_q3).trans hc_w
      have hc_cs : M4 cs = some (.inl (kA 0, 8, .inl (c100 f))) := (hfr cs n_cs_q3).trans hc_cs
      have hc_im : M4 im = some (.inl (kA 6, 3, .inr (.inr (.inr (.inr (fun _ => none)))))) := (hfr im n_im_q3).trans hc_im
      have hF : ∀ a, a ≠ im → a < sz → M4 a = M a := fun a h0 h1 => (hfr a (Nat.ne_of_lt (Nat.lt_of_lt_of_le h1 g_q3))).trans (hF a h0 h1)
      refine lv_dup hx hb dX9_image_28 rfl ?_
      have lt_q3 : q3 < Array.size H := hH.1.ltM (by rw [hc_q3]; simp)
      have gH : sz ≤ Array.size H := by rw [← hsz]; exact hH.2.1.1
      have lt_ro : ro < Array.size H := hH.1.ltM (by rw [hc_ro]; simp)
      have lt_w : w < Array.size H := hH.1.ltM (by rw [hc_w]; simp)
      have lt_cs : cs < Array.size H := hH.1.ltM (by rw [hc_cs]; simp)
      have lt_im : im < Array.size H := hH.1.ltM (by rw [hc_im]; simp)
      have lt_q3 : q3 < Array.size H := hH.1.ltM (by rw [hc_q3]; simp)
      refine goV hK hH (runI (As := []) (rest := [.ref q3, .int k, .ref im]) hC hK hH (c_X8_init hc_q3 lt_q3) mlX9_11 ⟨⟨Nat.le_of_ble_eq_true rfl, Nat.le_of_ble_eq_true rfl⟩, Nat.le_of_ble_eq_true rfl, Nat.le_of_ble_eq_true rfl⟩ rfl hl.1 rfl (Nat.le_of_ble_eq_true rfl) dX9_image_29) (fun M5 T6 H locs hP hz hH => ?_)
      try dsimp only at hP
      obtain ⟨cs7, bs8, tp9, hc_q3, hc_cs7, t_bs8, t_tp9, g_cs7, g_bs8, g_tp9, hsub, hfr⟩ := hP
      have n_ro_cs7 : ro ≠ cs7 := Nat.ne_of_lt (Nat.lt_of_lt_of_le lt_ro g_cs7)
      have n_cs7_ro : cs7 ≠ ro := Ne.symm n_ro_cs7
      have n_w_cs7 : w ≠ cs7 := Nat.ne_of_lt (Nat.lt_of_lt_of_le lt_w g_cs7)
      have n_cs7_w : cs7 ≠ w := Ne.symm n_w_cs7
      have n_cs_cs7 : cs ≠ cs7 := Nat.ne_of_lt (Nat.lt_of_lt_of_le lt_cs g_cs7)
      have n_cs7_cs : cs7 ≠ cs := Ne.symm n_cs_cs7
      have n_im_cs7 : im ≠ cs7 := Nat.ne_of_lt (Nat.lt_of_lt_of_le lt_im g_cs7)
      have n_cs7_im : cs7 ≠ im := Ne.symm n_im_cs7
      have n_q3_cs7 : q3 ≠ cs7 := Nat.ne_of_lt (Nat.lt_of_lt_of_le lt_q3 g_cs7)
      have n_cs7_q3 : cs7 ≠ q3 := Ne.symm n_q3_cs7
      have n_ro_bs8 : ro ≠ bs8 := Nat.ne_of_lt (Nat.lt_of_lt_of_le lt_ro g_bs8)
      have n_bs8_ro : bs8 ≠ ro := Ne.symm n_ro_bs8
      have n_w_bs8 : w ≠ bs8 := Nat.ne_of_lt (Nat.lt_of_lt_of_le lt_w g_bs8)
      have n_bs8_w : bs8 ≠ w := Ne.symm n_w_bs8
      have n_cs_bs8 : cs ≠ bs8 := Nat.ne_of_lt (Nat.lt_of_lt_of_le lt_cs g_bs8)
      have n_bs8_cs : bs8 ≠ cs := Ne.symm n_cs_bs8
      have n_im_bs8 : im ≠ bs8 := Nat.ne_of_lt (Nat.lt_of_lt_of_le lt_im g_bs8)
      have n_bs8_im : bs8 ≠ im := Ne.symm n_im_bs8
      have n_q3_bs8 : q3 ≠ bs8 := Nat.ne_of_lt (Nat.lt_of_lt_of_le lt_q3 g_bs8)
      have n_bs8_q3 : bs8 ≠ q3 := Ne.symm n_q3_bs8
      have n_ro_tp9 : ro ≠ tp9 := Nat.ne_of_lt (Nat.lt_of_lt_of_le lt_ro g_tp9)
      have n_tp9_ro : tp9 ≠ ro := Ne.symm n_ro_tp9
      have n_w_tp9 : w ≠ tp9 := Nat.ne_of_lt (Nat.lt_of_lt_of_le lt_w g_tp9)
      have n_tp9_w : tp9 ≠ w := Ne.symm n_w_tp9
      have n_cs_tp9 : cs ≠ tp9 := Nat.ne_of_lt (Nat.lt_of_lt_of_le lt_cs g_tp9)
      have n_tp9_cs : tp9 ≠ cs := Ne.symm n_cs_tp9
      have n_im_tp9 : im ≠ tp9 := Nat.ne_of_lt (Nat.lt_of_lt_of_le lt_im g_tp9)
      have n_tp9_im : tp9 ≠ im := Ne.symm n_im_tp9
      have n_q3_tp9 : q3 ≠ tp9 := Nat.ne_of_lt (Nat.lt_of_lt_of_le lt_q3 g_tp9)
      have n_tp9_q3 : tp9 ≠ q3 := Ne.symm n_q3_tp9
      have hc_ro : M5 ro = some (.inr (7, [.ref w, .ref im, .ref rd, .ref rc, .ref cu])) := (hfr ro n_ro_q3 lt_ro).trans hc_ro
      have hc_w : M5 w = some (.inr (6, [.int 0, .int 2, .int 0, .int 0, .int 0, .int 0, .int 0, .int (-1), .ref cs, .ref bs, .ref tp])) := (hfr w n_w_q3 lt_w).trans hc_w
      have hc_cs : M5 cs = some (.inl (kA 0, 8, .inl (c100 f))) := (hfr cs n_cs_q3 lt_cs).trans hc_cs
      have hc_im : M5 im = some (.inl (kA 6, 3, .inr (.inr (.inr (.inr (fun _ => none)))))) := (hfr im n_im_q3 lt_im).trans hc_im
      have ht_tp : T6 tp = some 7 := hsub _ _ ht_tp
      have g_cs7 : sz ≤ cs7 := Nat.le_trans gH g_cs7
      have g_bs8 : sz ≤ bs8 := Nat.le_trans gH g_bs8
      have g_tp9 : sz ≤ tp9 := Nat.le_trans gH g_tp9
      have hTT : ∀ a t, T a = some t → T6 a = some t := fun a t h => hsub _ _ (hTT a t h)
      have hF : ∀ a, a ≠ im → a < sz → M5 a = M a := fun a h0 h1 => (hfr a (Nat.ne_of_lt (Nat.lt_of_lt_of_le h1 g_q3)) (Nat.lt_of_lt_of_le h1 gH)).trans (hF a h0 h1)
      refine yqst (ck := 6) (cv := 6) (v := q3) hC hK hH rfl rfl hc_im ⟨_, hH.1.1 _ _ hc_q3⟩ (iIn (by omega) (by omega)) dX9_image_32 (fun H locs M10 hc_im hfr hH => ?_)
      have hc_im : M10 im = some (.inl (kA 6, 3, .inr (.inr (.inr (.inr (va_up (fun _ => none) (Int32.toNatClampNeg k) (some q3))))))) := hc_im
      have hc_ro : M10 ro = some (.inr (7, [.ref w, .ref im, .ref rd, .ref rc, .ref cu])) := (hfr ro n_ro_im).trans hc_ro
      have hc_w : M10 w = some (.inr (6, [.int 0, .int 2, .int 0, .int 0, .int 0, .int 0, .int 0, .int (-1), .ref cs, .ref bs, .ref tp])) := (hfr w n_w_im).trans hc_w
      have hc_cs : M10 cs = some (.inl (kA 0, 8, .inl (c100 f))) := (hfr cs n_cs_im).trans hc_cs
      have hc_q3 : M10 q3 = some (.inr (6, [.int 0, .int 2, .int 0, .int 0, .int 0, .int 0, .int 0, .int (-1), .ref cs7, .ref bs8, .ref tp9])) := (hfr q3 n_q3_im).trans hc_q3
      have hc_cs7 : M10 cs7 = some (.inl (kA 0, 8, .inl (c100 (fun _ => 0)))) := (hfr cs7 n_cs7_im).trans hc_cs7
      have hF : ∀ a, a ≠ im → a < sz → M10 a = M a := fun a h0 h1 => (hfr a h0).trans (hF a h0 h1)
      refine lv_aload_n hx hb dX9_image_33 rfl (lv_at hl 0 rfl) ?_
      refine xg hC hK hH flX9_16 hc_ro rfl dX9_image_34 ?_
      refine lv_iload_n hx hb dX9_image_37 rfl (lv_at hl 1 rfl) ?_
      refine xqld (ck := 6) hC hK hH rfl hc_im (iIn (by omega) (by omega)) dX9_image_38 ?_
      refine lv_qr (upS _ _ _) ?_
      refine lv_aload_n hx hb dX9_image_39 rfl (lv_at hl 0 rfl) ?_
      refine xg hC hK hH flX9_12 hc_ro rfl dX9_image_40 ?_
      refine goV hK hH (runV (As := [.ref w]) (rest := []) hC hK hH (c_X8_copy hc_q3 hc_w hc_cs7 hc_cs ht_tp t_tp9 n_q3_w n_w_q3 n_cs_cs7 n_cs7_cs) mlX9_343 (rcvM hK hH hc_q3 rfl) ⟨⟨Nat.le_of_ble_eq_true rfl, Nat.le_of_ble_eq_true rfl⟩, Nat.le_of_ble_eq_true rfl, Nat.le_of_ble_eq_true rfl⟩ rfl hl.1 rfl (Nat.le_of_ble_eq_true rfl) dX9_image_43) (fun M11 T12 H locs hP hz hH => ?_)
      try dsimp only at hP
      obtain ⟨(-), eT, hfr⟩ := hP
      have eT := eT.symm; subst eT
      have hc_ro : M11 ro = some (.inr (7, [.ref w, .ref im, .ref rd, .ref rc, .ref cu])) := (hfr ro n_ro_q3 n_ro_cs7).trans hc_ro
      have hc_w : M11 w = some (.inr (6, [.int 0, .int 2, .int 0, .int 0, .int 0, .int 0, .int 0, .int (-1), .ref cs, .ref bs, .ref tp])) := (hfr w n_w_q3 n_w_cs7).trans hc_w
      have hc_cs : M11 cs = some (.inl (kA 0, 8, .inl (c100 f))) := (hfr cs n_cs_q3 n_cs_cs7).trans hc_cs
      have hc_im : M11 im = some (.inl (kA 6, 3, .inr (.inr (.inr (.inr (va_up (fun _ => none) (Int32.toNatClampNeg k) (some q3))))))) := (hfr im n_im_q3 n_im_cs7).trans hc_im
      have hF : ∀ a, a ≠ im → a < sz → M11 a = M a := fun a h0 h1 => (hfr a (Nat.ne_of_lt (Nat.lt_of_lt_of_le h1 g_q3)) (Nat.ne_of_lt (Nat.lt_of_lt_of_le h1 g_cs7))).trans (hF a h0 h1)
      refine lv_iconst (v := 1) hx hb dX9_image_46 (by decide) ?_
      exact ret_z hC hr hlk hK hH (by first | exact Or.inl rfl | exact Or.inr rfl) (⟨Or.inl ⟨by omega, rfl⟩, hTT, hF⟩) (Nat.le_of_ble_eq_true rfl) (Nat.le_of_ble_eq_true rfl) dX9_image_47
    · skip
      have c2 : 3 ≤ k.toInt := c2
      refine lv_iconst (v := 0) hx hb dX9_image_9 (by decide) ?_
      exact ret_z hC hr hlk hK hH (by first | exact Or.inl rfl | exact Or.inr rfl) (⟨Or.inr ⟨by omega, rfl⟩, hTT, hF⟩) (Nat.le_of_ble_eq_true rfl) (Nat.le_of_ble_eq_true rfl) dX9_image_10
