theorem cpX8_54 : CPL RX8 54 := ⟨TB_t 945 (by decide +kernel) rfl, TB_t 562 (by decide +kernel) rfl, TB_t 561 (by decide +kernel) rfl, TB_t 19 (by decide +kernel) rfl⟩
set_option maxHeartbeats 4000000 in
set_option maxRecDepth 100000 in
theorem c_X8_copy {l : Launch} {D : va_G} {kA : Nat → ClassId} {M : mM} {T : mT} {sz : Nat} {v csv bsv tpv : Nat} {tdv gdv bcv pyv rfv ltv tlv fpv : Int32} {gv : Nat → Option Nat}{w cs bs tp : Nat} {td gd bc py rf lt tl fp : Int32} {g : Nat → Option Nat} (hc_v : M v = some (.inr (6, [.int tdv, .int gdv, .int bcv, .int pyv, .int rfv, .int ltv, .int tlv, .int fpv, .ref csv, .ref bsv, .ref tpv]))) (hn_v : T v = none) (hc_w : M w = some (.inr (6, [.int td, .int gd, .int bc, .int py, .int rf, .int lt, .int tl, .int fp, .ref cs, .ref bs, .ref tp]))) (hn_w : T w = none) (hc_bsv : M bsv = some (.inl (kA 5, 4, .inr (.inr (.inr (.inr gv)))))) (hc_bs : M bs = some (.inl (kA 5, 4, .inr (.inr (.inr (.inr g)))))) (ht_cs : T cs = some 3) (ht_bs : T bs = some 6) (ht_tp : T tp = some 7) (ht_csv : T csv = some 3) (ht_bsv : T bsv = some 6) (ht_tpv : T tpv = some 7) (htd : 0 ≤ td.toInt ∧ td.toInt ≤ 999) (hbc : 0 ≤ bc.toInt ∧ bc.toInt ≤ 4) (htl : 0 ≤ tl.toInt ∧ tl.toInt ≤ 600) (hg : ∀ j, j < 4 → ∃ q, g j = some q ∧ T q = some 2) (hgv : ∀ j, j < 4 → ∃ q, gv j = some q ∧ T q = some 2) (n_v_w : v ≠ w) (n_w_v : w ≠ v) : mCv l yX8_copy cX8_copy 3 3 0 0 D kA M T sz [.ref v, .ref w] (fun u => (u.1 v = some (.inr (6, [.int td, .int gd, .int bc, .int py, .int rf, .int lt, .int tl, .int fp, .ref csv, .ref bsv, .ref tpv]))) ∧ u.2 = T ∧ (∀ q, FrA T q → q ≠ v → u.1 q = M q)) := by
  unfold mCv
  refine start_W (by decide) (Nat.le_of_ble_eq_true rfl) ?_
  intro p e s m below meth c ls hC hr hlk hnm hK hH hsz hl
  have hx := hC.1
  have hb := hC.2.1
  have hl : lv_has ls 3 [(0, .ref v), (1, .ref w)] := hl
  have hF : ∀ q, FrA T q → q ≠ v → M q = M q := fun q _ _ => rfl
  have n_v_bsv : v ≠ bsv := neM hc_v hc_bsv (by simp)
  have n_v_bs : v ≠ bs := neM hc_v hc_bs (by simp)
  have n_w_bsv : w ≠ bsv := neM hc_w hc_bsv (by simp)
  have n_w_bs : w ≠ bs := neM hc_w hc_bs (by simp)
  have n_bsv_v : bsv ≠ v := neM hc_bsv hc_v (by simp)
  have n_bsv_w : bsv ≠ w := neM hc_bsv hc_w (by simp)
  have n_bs_v : bs ≠ v := neM hc_bs hc_v (by simp)
  have n_bs_w : bs ≠ w := neM hc_bs hc_w (by simp)
  refine lv_aload_n hx hb dX8_copy_0 rfl (lv_at hl 0 rfl) ?_
  refine lv_aload_n hx hb dX8_copy_1 rfl (lv_at hl 1 rfl) ?_
  refine xg hC hK hH flX8_29 hc_w rfl dX8_copy_2 ?_
  refine yp (v := .int td) hC hK hH flX8_29 hc_v (noT hn_v) rfl rfl (Nat.le_of_ble_eq_true rfl) dX8_copy_5 (fun Hq_ lcq_ Mq1_ hc_v hfr hH => ?_)
  have hc_v : Mq1_ v = some (.inr (6, [.int td, .int gdv, .int bcv, .int pyv, .int rfv, .int ltv, .int tlv, .int fpv, .ref csv, .ref bsv, .ref tpv])) := hc_v
  have hc_w : Mq1_ w = some (.inr (6, [.int td, .int gd, .int bc, .int py, .int rf, .int lt, .int tl, .int fp, .ref cs, .ref bs, .ref tp])) := (hfr w n_w_v).trans hc_w
  have hc_bsv : Mq1_ bsv = some (.inl (kA 5, 4, .inr (.inr (.inr (.inr gv))))) := (hfr bsv n_bsv_v).trans hc_bsv
  have hc_bs : Mq1_ bs = some (.inl (kA 5, 4, .inr (.inr (.inr (.inr g))))) := (hfr bs n_bs_v).trans hc_bs
  have hF : ∀ q, FrA T q → q ≠ v → Mq1_ q = M q := fun q hq h0 => (hfr q h0).trans (hF q hq h0)
  refine lv_aload_n hx hb dX8_copy_8 rfl (lv_at hl 0 rfl) ?_
  refine lv_aload_n hx hb dX8_copy_9 rfl (lv_at hl 1 rfl) ?_
  refine xg hC hK hH flX8_33 hc_w rfl dX8_copy_10 ?_
  refine yp (v := .int gd) hC hK hH flX8_33 hc_v (noT hn_v) rfl rfl (Nat.le_of_ble_eq_true rfl) dX8_copy_13 (fun Hq_ lcq_ Mq2_ hc_v hfr hH => ?_)
  have hc_v : Mq2_ v = some (.inr (6, [.int td, .int gd, .int bcv, .int pyv, .int rfv, .int ltv, .int tlv, .int fpv, .ref csv, .ref bsv, .ref tpv])) := hc_v
  have hc_w : Mq2_ w = some (.inr (6, [.int td, .int gd, .int bc, .int py, .int rf, .int lt, .int tl, .int fp, .ref cs, .ref bs, .ref tp])) := (hfr w n_w_v).trans hc_w
  have hc_bsv : Mq2_ bsv = some (.inl (kA 5, 4, .inr (.inr (.inr (.inr gv))))) := (hfr bsv n_bsv_v).trans hc_bsv
  have hc_bs : Mq2_ bs = some (.inl (kA 5, 4, .inr (.inr (.inr (.inr g))))) := (hfr bs n_bs_v).trans hc_bs
  have hF : ∀ q, FrA T q → q ≠ v → Mq2_ q = M q := fun q hq h0 => (hfr q h0).trans (hF q hq h0)
  refine lv_aload_n hx hb dX8_copy_16 rfl (lv_at hl 0 rfl) ?_
  refine lv_aload_n hx hb dX8_copy_17 rfl (lv_at hl 1 rfl) ?_
  refine xg hC hK hH flX8_36 hc_w rfl dX8_copy_18 ?_
  refine yp (v := .int bc) hC hK hH flX8_36 hc_v (noT hn_v) rfl rfl (Nat.le_of_ble_eq_true rfl) dX8_copy_21 (fun Hq_ lcq_ Mq3_ hc_v hfr hH => ?_)
  have hc_v : Mq3_ v = some (.inr (6, [.int td, .int gd, .int bc, .int pyv, .int rfv, .int ltv, .int tlv, .int fpv, .ref csv, .ref bsv, .ref tpv])) := hc_v
  have hc_w : Mq3_ w = some (.inr (6, [.int td, .int gd, .int bc, .int py, .int rf, .int lt, .int tl, .int fp, .ref cs, .ref bs, .ref tp])) := (hfr w n_w_v).trans hc_w
  have hc_bsv : Mq3_ bsv = some (.inl (kA 5, 4, .inr (.inr (.inr (.inr gv))))) := (hfr bsv n_bsv_v).trans hc_bsv
  have hc_bs : Mq3_ bs = some (.inl (kA 5, 4, .inr (.inr (.inr (.inr g))))) := (hfr bs n_bs_v).trans hc_bs
  have hF : ∀ q, FrA T q → q ≠ v → Mq3_ q = M q := fun q hq h0 => (hfr q h0).trans (hF q hq h0)
  refine lv_aload_n hx hb dX8_copy_24 rfl (lv_at hl 0 rfl) ?_
  refine lv_aload_n hx hb dX8_copy_25 rfl (lv_at hl 1 rfl) ?_
  refine xg hC hK hH flX8_39 hc_w rfl dX8_copy_26 ?_
  refine yp (v := .int py) hC hK hH flX8_39 hc_v (noT hn_v) rfl rfl (Nat.le_of_ble_eq_true rfl) dX8_copy_29 (fun Hq_ lcq_ Mq4_ hc_v hfr hH => ?_)
  have hc_v : Mq4_ v = some (.inr (6, [.int td, .int gd, .int bc, .int py, .int rfv, .int ltv, .int tlv, .int fpv, .ref csv, .ref bsv, .ref tpv])) := hc_v
  have hc_w : Mq4_ w = some (.inr (6, [.int td, .int gd, .int bc, .int py, .int rf, .int lt, .int tl, .int fp, .ref cs, .ref bs, .ref tp])) := (hfr w n_w_v).trans hc_w
  have hc_bsv : Mq4_ bsv = some (.inl (kA 5, 4, .inr (.inr (.inr (.inr gv))))) := (hfr bsv n_bsv_v).trans hc_bsv
  have hc_bs : Mq4_ bs = some (.inl (kA 5, 4, .inr (.inr (.inr (.inr g))))) := (hfr bs n_bs_v).trans hc_bs
  have hF : ∀ q, FrA T q → q ≠ v → Mq4_ q = M q := fun q hq h0 => (hfr q h0).trans (hF q hq h0)
  refine lv_aload_n hx hb dX8_copy_32 rfl (lv_at hl 0 rfl) ?_
  refine lv_aload_n hx hb dX8_copy_33 rfl (lv_at hl 1 rfl) ?_
  refine xg hC hK hH flX8_42 hc_w rfl dX8_copy_34 ?_
  refine yp (v := .int rf) hC hK hH flX8_42 hc_v (noT hn_v) rfl rfl (Nat.le_of_ble_eq_true rfl) dX8_copy_37 (fun Hq_ lcq_ Mq5_ hc_v hfr hH => ?_)
  have hc_v : Mq5_ v = some (.inr (6, [.int td, .int gd, .int bc, .int py, .int rf, .int ltv, .int tlv, .int fpv, .ref csv, .ref bsv, .ref tpv])) := hc_v
  have hc_w : Mq5_ w = some (.inr (6, [.int td, .int gd, .int bc, .int py, .int rf, .int lt, .int tl, .int fp, .ref cs, .ref bs, .ref tp])) := (hfr w n_w_v).trans hc_w
  have hc_bsv : Mq5_ bsv = some (.inl (kA 5, 4, .inr (.inr (.inr (.inr gv))))) := (hfr bsv n_bsv_v).trans hc_bsv
  have hc_bs : Mq5_ bs = some (.inl (kA 5, 4, .inr (.inr (.inr (.inr g))))) := (hfr bs n_bs_v).trans hc_bs
  have hF : ∀ q, FrA T q → q ≠ v → Mq5_ q = M q := fun q hq h0 => (hfr q h0).trans (hF q hq h0)
  refine lv_aload_n hx hb dX8_copy_40 rfl (lv_at hl 0 rfl) ?_
  refine lv_aload_n hx hb dX8_copy_41 rfl (lv_at hl 1 rfl) ?_
  refine xg hC hK hH flX8_45 hc_w rfl dX8_copy_42 ?_
  refine yp (v := .int lt) hC hK hH flX8_45 hc_v (noT hn_v) rfl rfl (Nat.le_of_ble_eq_true rfl) dX8_copy_45 (fun Hq_ lcq_ Mq6_ hc_v hfr hH => ?_)
  have hc_v : Mq6_ v = some (.inr (6, [.int td, .int gd, .int bc, .int py, .int rf, .int lt, .int tlv, .int fpv, .ref csv, .ref bsv, .ref tpv])) := hc_v
  have hc_w : Mq6_ w = some (.inr (6, [.int td, .int gd, .int bc, .int py, .int rf, .int lt, .int tl, .int fp, .ref cs, .ref bs, .ref tp])) := (hfr w n_w_v).trans hc_w
  have hc_bsv : Mq6_ bsv = some (.inl (kA 5, 4, .inr (.inr (.inr (.inr gv))))) := (hfr bsv n_bsv_v).trans hc_bsv
  have hc_bs : Mq6_ bs = some (.inl (kA 5, 4, .inr (.inr (.inr (.inr g))))) := (hfr bs n_bs_v).trans hc_bs
  have hF : ∀ q, FrA T q → q ≠ v → Mq6_ q = M q := fun q hq h0 => (hfr q h0).trans (hF q hq h0)
  refine lv_aload_n hx hb dX8_copy_48 rfl (lv_at hl 0 rfl) ?_
  refine lv_aload_n hx hb dX8_copy_49 rfl (lv_at hl 1 rfl) ?_
  refine xg hC hK hH flX8_48 hc_w rfl dX8_copy_50 ?_
  refine yp (v := .int tl) hC hK hH flX8_48 hc_v (noT hn_v) rfl rfl (Nat.le_of_ble_eq_true rfl) dX8_copy_53 (fun Hq_ lcq_ Mq7_ hc_v hfr hH => ?_)
  have hc_v : Mq7_ v = some (.inr (6, [.int td, .int gd, .int bc, .int py, .int rf, .int lt, .int tl, .int fpv, .ref csv, .ref bsv, .ref tpv])) := hc_v
  have hc_w : Mq7_ w = some (.inr (6, [.int td, .int gd, .int bc, .int py, .int rf, .int lt, .int tl, .int fp, .ref cs, .ref bs, .ref tp])) := (hfr w n_w_v).trans hc_w
  have hc_bsv : Mq7_ bsv = some (.inl (kA 5, 4, .inr (.inr (.inr (.inr gv))))) := (hfr bsv n_bsv_v).trans hc_bsv
  have hc_bs : Mq7_ bs = some (.inl (kA 5, 4, .inr (.inr (.inr (.inr g))))) := (hfr bs n_bs_v).trans hc_bs
  have hF : ∀ q, FrA T q → q ≠ v → Mq7_ q = M q := fun q hq h0 => (hfr q h0).trans (hF q hq h0)
  refine lv_aload_n hx hb dX8_copy_56 rfl (lv_at hl 0 rfl) ?_
  refine lv_aload_n hx hb dX8_copy_57 rfl (lv_at hl 1 rfl) ?_
  refine xg hC hK hH flX8_51 hc_w rfl dX8_copy_58 ?_
  refine yp (v := .int fp) hC hK hH flX8_51 hc_v (noT hn_v) rfl rfl (Nat.le_of_ble_eq_true rfl) dX8_copy_61 (fun Hq_ lcq_ Mq8_ hc_v hfr hH => ?_)
  have hc_v : Mq8_ v = some (.inr (6, [.int td, .int gd, .int bc, .int py, .int rf, .int lt, .int tl, .int fp, .ref csv, .ref bsv, .ref tpv])) := hc_v
  have hc_w : Mq8_ w = some (.inr (6, [.int td, .int gd, .int bc, .int py, .int rf, .int lt, .int tl, .int fp, .ref cs, .ref bs, .ref tp])) := (hfr w n_w_v).trans hc_w
  have hc_bsv : Mq8_ bsv = some (.inl (kA 5, 4, .inr (.inr (.inr (.inr gv))))) := (hfr bsv n_bsv_v).trans hc_bsv
  have hc_bs : Mq8_ bs = some (.inl (kA 5, 4, .inr (.inr (.inr (.inr g))))) := (hfr bs n_bs_v).trans hc_bs
  have hF : ∀ q, FrA T q → q ≠ v → Mq8_ q = M q := fun q hq h0 => (hfr q h0).trans (hF q hq h0)
  refine lv_aload_n hx hb dX8_copy_64 rfl (lv_at hl 1 rfl) ?_
  refine xg hC hK hH flX8_9 hc_w rfl dX8_copy_65 ?_
  refine lv_iconst (v := 0) hx hb dX8_copy_68 (by decide) ?_
  refine lv_aload_n hx hb dX8_copy_69 rfl (lv_at hl 0 rfl) ?_
  refine xg hC hK hH flX8_9 hc_v rfl dX8_copy_70 ?_
  refine lv_iconst (v := 0) hx hb dX8_copy_73 (by decide) ?_
  refine lv_bipush (v := 8) hx hb dX8_copy_74 (by decide) ?_
  refine tcpy hC hK hH hl.1 cpX8_54 ht_cs ht_csv rfl rfl rfl (fun _ _ _ => rfl) (by decide) (by decide) (by decide) (Nat.le_of_ble_eq_true rfl) (Nat.le_of_ble_eq_true rfl) (Nat.le_of_ble_eq_true rfl) (Nat.le_of_ble_eq_true rfl) dX8_copy_76 (fun Hq_ lcq_ Mq9_ _ hfr hH => ?_)
  have hc_v : Mq9_ v = some (.inr (6, [.int td, .int gd, .int bc, .int py, .int rf, .int lt, .int tl, .int fp, .ref csv, .ref bsv, .ref tpv])) := (hfr v (neF (Or.inl hn_v) ht_csv (by decide))).trans hc_v
  have hc_w : Mq9_ w = some (.inr (6, [.int td, .int gd, .int bc, .int py, .int rf, .int lt, .int tl, .int fp, .ref cs, .ref bs, .ref tp])) := (hfr w (neF (Or.inl hn_w) ht_csv (by decide))).trans hc_w
  have hc_bsv : Mq9_ bsv = some (.inl (kA 5, 4, .inr (.inr (.inr (.inr gv))))) := (hfr bsv (neF (Or.inr (Or.inl ht_bsv)) ht_csv (by decide))).trans hc_bsv
  have hc_bs : Mq9_ bs = some (.inl (kA 5, 4, .inr (.inr (.inr (.inr g))))) := (hfr bs (neF (Or.inr (Or.inl ht_bs)) ht_csv (by decide))).trans hc_bs
  have hF : ∀ q, FrA T q → q ≠ v → Mq9_ q = M q := fun q hq h0 => (hfr q (neA hq ht_csv (by decide))).trans (hF q hq h0)
  refine lv_aload_n hx hb dX8_copy_79 rfl (lv_at hl 1 rfl) ?_
  refine xg hC hK hH flX8_21 hc_w rfl dX8_copy_80 ?_
  refine lv_iconst (v := 0) hx hb dX8_copy_83 (by decide) ?_
  refine lv_aload_n hx hb dX8_copy_84 rfl (lv_at hl 0 rfl) ?_
  refine xg hC hK hH flX8_21 hc_v rfl dX8_copy_85 ?_
  refine lv_iconst (v := 0) hx hb dX8_copy_88 (by decide) ?_
  refine lv_sipush (v := 600) hx hb dX8_copy_89 (by decide) ?_
  refine tcpy hC hK hH hl.1 cpX8_54 ht_tp ht_tpv rfl rfl rfl (fun _ h1 h2 => fit8 h1 h2) (by decide) (by decide) (by decide) (Nat.le_of_ble_eq_true rfl) (Nat.le_of_ble_eq_true rfl) (Nat.le_of_ble_eq_true rfl) (Nat.le_of_ble_eq_true rfl) dX8_copy_92 (fun Hq_ lcq_ Mq10_ _ hfr hH => ?_)
  have hc_v : Mq10_ v = some (.inr (6, [.int td, .int gd, .int bc, .int py, .int rf, .int lt, .int tl, .int fp, .ref csv, .ref bsv, .ref tpv])) := (hfr v (neF (Or.inl hn_v) ht_tpv (by decide))).trans hc_v
  have hc_w : Mq10_ w = some (.inr (6, [.int td, .int gd, .int bc, .int py, .int rf, .int lt, .int tl, .int fp, .ref cs, .ref bs, .ref tp])) := (hfr w (neF (Or.inl hn_w) ht_tpv (by decide))).trans hc_w
  have hc_bsv : Mq10_ bsv = some (.inl (kA 5, 4, .inr (.inr (.inr (.inr gv))))) := (hfr bsv (neF (Or.inr (Or.inl ht_bsv)) ht_tpv (by decide))).trans hc_bsv
  have hc_bs : Mq10_ bs = some (.inl (kA 5, 4, .inr (.inr (.inr (.inr g))))) := (hfr bs (neF (Or.inr (Or.inl ht_bs)) ht_tpv (by decide))).trans hc_bs
  have hF : ∀ q, FrA T q → q ≠ v → Mq10_ q = M q := fun q hq h0 => (hfr q (neA hq ht_tpv (by decide))).trans (hF q hq h0)
  refine lv_iconst (v := 0) hx hb dX8_copy_95 (by decide) ?_
  refine lv_istore_n (lv' := [(2, .int 0), (0, .ref v), (1, .ref w)]) hx hb dX8_copy_96 rfl hl (by decide) rfl (fun ls hl => ?_)
  have loop : ∀ (n : Nat) (iq11_ : Int32) (Hq_ : Heap) (lcq_ : List Loc) (Mq12_ : mM) (ls : Array Slot), iq11_.toInt + (n : Int) = 4 → (0 : Int) ≤ iq11_.toInt → iq11_.toInt ≤ 4 → Mq12_ v = some (.inr (6, [.int td, .int gd, .int bc, .int py, .int rf, .int lt, .int tl, .int fp, .ref csv, .ref bsv, .ref tpv])) → Mq12_ w = some (.inr (6, [.int td, .int gd, .int bc, .int py, .int rf, .int lt, .int tl, .int fp, .ref cs, .ref bs, .ref tp])) → Mq12_ bsv = some (.inl (kA 5, 4, .inr (.inr (.inr (.inr gv))))) → Mq12_ bs = some (.inl (kA 5, 4, .inr (.inr (.inr (.inr g))))) → (∀ q, FrA T q → q ≠ v → Mq12_ q = M q) → mS D kA Mq12_ T (mA M T sz) s.heap Hq_ lcq_ → lv_has ls 3 [(2, .int iq11_), (0, .ref v), (1, .ref w)] → W p l e (rmL 3 0 0) s m ([.ref v, .ref w] : List Value).toArray below meth c Hq_ lcq_ 0 0 (MQ below (va_Qv (fun u => (u.1 v = some (.inr (6, [.int td, .int gd, .int bc, .int py, .int rf, .int lt, .int tl, .int fp, .ref csv, .ref bsv, .ref tpv]))) ∧ u.2 = T ∧ (∀ q, FrA T q → q ≠ v → u.1 q = M q)) (mB D kA M T sz) (mA M T sz)) ([.ref v, .ref w] : List Value).toArray s 0 0 (mA M T sz)) (F0 m 97 ls []) := by
    intro n
    induction n with
    | zero =>
      intro iq11_ Hq_ lcq_ Mq12_ ls hi_iq11_ h0_iq11_ h9_iq11_ hc_v hc_w hc_bsv hc_bs hF hH hl
      have hi2_iq11_ : iq11_.toInt = 4 := by omega
      refine lv_iload_n hx hb dX8_copy_97 rfl (lv_at hl 0 rfl) ?_
      refine lv_iconst (v := 4) hx hb dX8_copy_98 (by decide) ?_
      refine jic_ge (tgt := 131) hx hb dX8_copy_99 (by decide) (fun cq13_ => ?_) (fun cq13_ => absurd cq13_ (by have := iRg iq11_; have : (4 : Int32).toInt = 4 := rfl; omega))
      have cq13_ : 4 ≤ iq11_.toInt := cq13_
      exact ret_v hC hr hlk hK hH (⟨hc_v, rfl, hF⟩) (Nat.le_of_ble_eq_true rfl) (Nat.le_of_ble_eq_true rfl) dX8_copy_131
    | succ n ih =>
      intro iq11_ Hq_ lcq_ Mq12_ ls hi_iq11_ h0_iq11_ h9_iq11_ hc_v hc_w hc_bsv hc_bs hF hH hl
      have hi2_iq11_ : iq11_.toInt ≤ 3 := by omega
      refine lv_iload_n hx hb dX8_copy_97 rfl (lv_at hl 0 rfl) ?_
      refine lv_iconst (v := 4) hx hb dX8_copy_98 (by decide) ?_
      refine jic_ge (tgt := 131) hx hb dX8_copy_99 (by decide) (fun cq14_ => absurd cq14_ (by have := iRg iq11_; have : (4 : Int32).toInt = 4 := rfl; omega)) (fun cq14_ => ?_)
      have cq14_ : iq11_.toInt < 4 := cq14_
      refine lv_iload_n hx hb dX8_copy_102 rfl (lv_at hl 0 rfl) ?_
      refine lv_aload_n hx hb dX8_copy_103 rfl (lv_at hl 2 rfl) ?_
      refine xg hC hK hH flX8_36 hc_w rfl dX8_copy_104 ?_
      refine jic_ge (tgt := 131) hx hb dX8_copy_107 (by decide) (fun cq15_ => ?_) (fun cq15_ => ?_)
      · skip
        have cq15_ : bc.toInt ≤ iq11_.toInt := cq15_
        exact ret_v hC hr hlk hK hH (⟨hc_v, rfl, hF⟩) (Nat.le_of_ble_eq_true rfl) (Nat.le_of_ble_eq_true rfl) dX8_copy_131
      · skip
        have cq15_ : iq11_.toInt < bc.toInt := cq15_
        refine lv_aload_n hx hb dX8_copy_110 rfl (lv_at hl 1 rfl) ?_
        refine xg hC hK hH flX8_17 hc_v rfl dX8_copy_111 ?_
        refine lv_iload_n hx hb dX8_copy_114 rfl (lv_at hl 0 rfl) ?_
        refine xqld (ck := 5) hC hK hH rfl hc_bsv (iIn (by omega) (by omega)) dX8_copy_115 ?_
        obtain ⟨qq16_, e_qq16_, t_qq16_⟩ := hgv (Int32.toNatClampNeg iq11_) (by have := iCl (x := iq11_) (by omega); omega)
        refine lv_qr e_qq16_ ?_
        refine lv_aload_n hx hb dX8_copy_116 rfl (lv_at hl 2 rfl) ?_
        refine xg hC hK hH flX8_17 hc_w rfl dX8_copy_117 ?_
        refine lv_iload_n hx hb dX8_copy_120 rfl (lv_at hl 0 rfl) ?_
        refine xqld (ck := 5) hC hK hH rfl hc_bs (iIn (by omega) (by omega)) dX8_copy_121 ?_
        obtain ⟨qq17_, e_qq17_, t_qq17_⟩ := hg (Int32.toNatClampNeg iq11_) (by have := iCl (x := iq11_) (by omega); omega)
        refine lv_qr e_qq17_ ?_
        refine goV hK hH (runV (As := [.ref qq17_]) (rest := []) hC hK hH (c_X1_copy t_qq16_ t_qq17_) mlX8_60 (rcvT hK hH t_qq16_ rfl rfl) ⟨⟨Nat.le_of_ble_eq_true rfl, Nat.le_of_ble_eq_true rfl⟩, Nat.le_of_ble_eq_true rfl, Nat.le_of_ble_eq_true rfl⟩ rfl hl.1 rfl (Nat.le_of_ble_eq_true rfl) dX8_copy_122) (fun Mq18_ Tq19_ Hq_ lcq_ hP hz hH => ?_)
        try dsimp only at hP
        obtain ⟨(-), eT, hfr⟩ := hP
        have eT := eT.symm; subst eT
        have hc_v : Mq18_ v = some (.inr (6, [.int td, .int gd, .int bc, .int py, .int rf, .int lt, .int tl, .int fp, .ref csv, .ref bsv, .ref tpv])) := (hfr v (Or.inl hn_v) ).trans hc_v
        have hc_w : Mq18_ w = some (.inr (6, [.int td, .int gd, .int bc, .int py, .int rf, .int lt, .int tl, .int fp, .ref cs, .ref bs, .ref tp])) := (hfr w (Or.inl hn_w) ).trans hc_w
        have hc_bsv : Mq18_ bsv = some (.inl (kA 5, 4, .inr (.inr (.inr (.inr gv))))) := (hfr bsv (Or.inr ht_bsv) ).trans hc_bsv
        have hc_bs : Mq18_ bs = some (.inl (kA 5, 4, .inr (.inr (.inr (.inr g))))) := (hfr bs (Or.inr ht_bs) ).trans hc_bs
        have hF : ∀ q, FrA T q → q ≠ v → Mq18_ q = M q := fun q hq h0 => (hfr q hq ).trans (hF q hq h0)
        obtain ⟨zq21_, e_zq21_⟩ : ∃ y : Int32, y = iq11_ + 1 := ⟨_, rfl⟩
        refine lv_iinc (v := zq21_) (lv' := [(2, .int zq21_), (0, .ref v), (1, .ref w)]) hx hb dX8_copy_125 hl (k := 0) rfl (by rw [e_zq21_]; rfl) (by decide) rfl (fun ls hl => ?_)
        have h_zq21_ : zq21_.toInt = iq11_.toInt + 1 := by rw [e_zq21_, iAdd (by have : (1 : Int32).toInt = 1 := rfl; omega) (by have : (1 : Int32).toInt = 1 := rfl; omega)]; rfl
        refine lv_goto (tgt := 97) hx hb dX8_copy_128 (by decide) ?_
        exact ih zq21_ _ _ _ ls (by omega) (by omega) (by omega) hc_v hc_w hc_bsv hc_bs hF hH (lv_sub hl [0, 1, 2] rfl)
  exact loop (Int.toNat (4 - 0)) 0 _ _ _ ls (by have : (0 : Int32).toInt = 0 := rfl; omega) (by have : (0 : Int32).toInt = 0 := rfl; omega) (by have : (0 : Int32).toInt = 0 := rfl; omega) hc_v hc_w hc_bsv hc_bs hF hH hl
