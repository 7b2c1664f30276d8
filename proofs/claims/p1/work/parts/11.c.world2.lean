set_option maxHeartbeats 4000000 in
set_option maxRecDepth 100000 in
theorem c_X8_begin {l : Launch} {D : va_G} {kA : Nat → ClassId} {M : mM} {T : mT} {sz : Nat} {w cs bs tp : Nat} {td gd bc py rf lt tl fp : Int32} {f : Nat → Int32} (hc_w : M w = some (.inr (6, [.int td, .int gd, .int bc, .int py, .int rf, .int lt, .int tl, .int fp, .ref cs, .ref bs, .ref tp]))) (hc_cs : M cs = some (.inl (kA 0, 8, .inl f))) : mCv l yX8_begin cX8_begin 2 0 0 0 D kA M T sz [.ref w] (fun u => (u.1 w = some (.inr (6, [.int 0, .int 2, .int 0, .int 0, .int 0, .int 0, .int 0, .int (-1), .ref cs, .ref bs, .ref tp])) ∧ u.1 cs = some (.inl (kA 0, 8, .inl (c100 f)))) ∧ u.2 = T ∧ (∀ q, q ≠ w → q ≠ cs → u.1 q = M q)) := by
  unfold mCv
  refine start_W (by decide) (Nat.le_of_ble_eq_true rfl) ?_
  intro p e s m below meth c ls hC hr hlk hnm hK hH hsz hl
  have hx := hC.1
  have hb := hC.2.1
  have hl : lv_has ls 2 [(0, .ref w)] := hl
  have hF : ∀ q, q ≠ w → q ≠ cs → M q = M q := fun q _ _ => rfl
  have n_w_cs : w ≠ cs := neM hc_w hc_cs (by simp)
  have n_cs_w : cs ≠ w := neM hc_cs hc_w (by simp)
  refine lv_aload_n hx hb dX8_begin_0 rfl (lv_at hl 0 rfl) ?_
  refine lv_iconst (v := 0) hx hb dX8_begin_1 (by decide) ?_
  refine yp (v := .int 0) hC hK hH flX8_29 hc_w rfl rfl (Nat.le_of_ble_eq_true rfl) dX8_begin_2 (fun Hq_ lcq_ Mq1_ hc_w hfr hH => ?_)
  have hc_w : Mq1_ w = some (.inr (6, [.int 0, .int gd, .int bc, .int py, .int rf, .int lt, .int tl, .int fp, .ref cs, .ref bs, .ref tp])) := hc_w
  have hc_cs : Mq1_ cs = some (.inl (kA 0, 8, .inl f)) := (hfr cs n_cs_w).trans hc_cs
  have hF : ∀ q, q ≠ w → q ≠ cs → Mq1_ q = M q := fun q h0 h1 => (hfr q h0).trans (hF q h0 h1)
  refine lv_aload_n hx hb dX8_begin_5 rfl (lv_at hl 0 rfl) ?_
  refine lv_iconst (v := 2) hx hb dX8_begin_6 (by decide) ?_
  refine yp (v := .int 2) hC hK hH flX8_33 hc_w rfl rfl (Nat.le_of_ble_eq_true rfl) dX8_begin_7 (fun Hq_ lcq_ Mq2_ hc_w hfr hH => ?_)
  have hc_w : Mq2_ w = some (.inr (6, [.int 0, .int 2, .int bc, .int py, .int rf, .int lt, .int tl, .int fp, .ref cs, .ref bs, .ref tp])) := hc_w
  have hc_cs : Mq2_ cs = some (.inl (kA 0, 8, .inl f)) := (hfr cs n_cs_w).trans hc_cs
  have hF : ∀ q, q ≠ w → q ≠ cs → Mq2_ q = M q := fun q h0 h1 => (hfr q h0).trans (hF q h0 h1)
  refine lv_aload_n hx hb dX8_begin_10 rfl (lv_at hl 0 rfl) ?_
  refine lv_iconst (v := 0) hx hb dX8_begin_11 (by decide) ?_
  refine yp (v := .int 0) hC hK hH flX8_36 hc_w rfl rfl (Nat.le_of_ble_eq_true rfl) dX8_begin_12 (fun Hq_ lcq_ Mq3_ hc_w hfr hH => ?_)
  have hc_w : Mq3_ w = some (.inr (6, [.int 0, .int 2, .int 0, .int py, .int rf, .int lt, .int tl, .int fp, .ref cs, .ref bs, .ref tp])) := hc_w
  have hc_cs : Mq3_ cs = some (.inl (kA 0, 8, .inl f)) := (hfr cs n_cs_w).trans hc_cs
  have hF : ∀ q, q ≠ w → q ≠ cs → Mq3_ q = M q := fun q h0 h1 => (hfr q h0).trans (hF q h0 h1)
  refine lv_aload_n hx hb dX8_begin_15 rfl (lv_at hl 0 rfl) ?_
  refine lv_iconst (v := 0) hx hb dX8_begin_16 (by decide) ?_
  refine yp (v := .int 0) hC hK hH flX8_39 hc_w rfl rfl (Nat.le_of_ble_eq_true rfl) dX8_begin_17 (fun Hq_ lcq_ Mq4_ hc_w hfr hH => ?_)
  have hc_w : Mq4_ w = some (.inr (6, [.int 0, .int 2, .int 0, .int 0, .int rf, .int lt, .int tl, .int fp, .ref cs, .ref bs, .ref tp])) := hc_w
  have hc_cs : Mq4_ cs = some (.inl (kA 0, 8, .inl f)) := (hfr cs n_cs_w).trans hc_cs
  have hF : ∀ q, q ≠ w → q ≠ cs → Mq4_ q = M q := fun q h0 h1 => (hfr q h0).trans (hF q h0 h1)
  refine lv_aload_n hx hb dX8_begin_20 rfl (lv_at hl 0 rfl) ?_
  refine lv_iconst (v := 0) hx hb dX8_begin_21 (by decide) ?_
  refine yp (v := .int 0) hC hK hH flX8_42 hc_w rfl rfl (Nat.le_of_ble_eq_true rfl) dX8_begin_22 (fun Hq_ lcq_ Mq5_ hc_w hfr hH => ?_)
  have hc_w : Mq5_ w = some (.inr (6, [.int 0, .int 2, .int 0, .int 0, .int 0, .int lt, .int tl, .int fp, .ref cs, .ref bs, .ref tp])) := hc_w
  have hc_cs : Mq5_ cs = some (.inl (kA 0, 8, .inl f)) := (hfr cs n_cs_w).trans hc_cs
  have hF : ∀ q, q ≠ w → q ≠ cs → Mq5_ q = M q := fun q h0 h1 => (hfr q h0).trans (hF q h0 h1)
  refine lv_aload_n hx hb dX8_begin_25 rfl (lv_at hl 0 rfl) ?_
  refine lv_iconst (v := 0) hx hb dX8_begin_26 (by decide) ?_
  refine yp (v := .int 0) hC hK hH flX8_45 hc_w rfl rfl (Nat.le_of_ble_eq_true rfl) dX8_begin_27 (fun Hq_ lcq_ Mq6_ hc_w hfr hH => ?_)
  have hc_w : Mq6_ w = some (.inr (6, [.int 0, .int 2, .int 0, .int 0, .int 0, .int 0, .int tl, .int fp, .ref cs, .ref bs, .ref tp])) := hc_w
  have hc_cs : Mq6_ cs = some (.inl (kA 0, 8, .inl f)) := (hfr cs n_cs_w).trans hc_cs
  have hF : ∀ q, q ≠ w → q ≠ cs → Mq6_ q = M q := fun q h0 h1 => (hfr q h0).trans (hF q h0 h1)
  refine lv_aload_n hx hb dX8_begin_30 rfl (lv_at hl 0 rfl) ?_
  refine lv_iconst (v := 0) hx hb dX8_begin_31 (by decide) ?_
  refine yp (v := .int 0) hC hK hH flX8_48 hc_w rfl rfl (Nat.le_of_ble_eq_true rfl) dX8_begin_32 (fun Hq_ lcq_ Mq7_ hc_w hfr hH => ?_)
  have hc_w : Mq7_ w = some (.inr (6, [.int 0, .int 2, .int 0, .int 0, .int 0, .int 0, .int 0, .int fp, .ref cs, .ref bs, .ref tp])) := hc_w
  have hc_cs : Mq7_ cs = some (.inl (kA 0, 8, .inl f)) := (hfr cs n_cs_w).trans hc_cs
  have hF : ∀ q, q ≠ w → q ≠ cs → Mq7_ q = M q := fun q h0 h1 => (hfr q h0).trans (hF q h0 h1)
  refine lv_aload_n hx hb dX8_begin_35 rfl (lv_at hl 0 rfl) ?_
  refine lv_iconst (v := -1) hx hb dX8_begin_36 (by decide) ?_
  refine yp (v := .int (-1)) hC hK hH flX8_51 hc_w rfl rfl (Nat.le_of_ble_eq_true rfl) dX8_begin_37 (fun Hq_ lcq_ Mq8_ hc_w hfr hH => ?_)
  have hc_w : Mq8_ w = some (.inr (6, [.int 0, .int 2, .int 0, .int 0, .int 0, .int 0, .int 0, .int (-1), .ref cs, .ref bs, .ref tp])) := hc_w
  have hc_cs : Mq8_ cs = some (.inl (kA 0, 8, .inl f)) := (hfr cs n_cs_w).trans hc_cs
  have hF : ∀ q, q ≠ w → q ≠ cs → Mq8_ q = M q := fun q h0 h1 => (hfr q h0).trans (hF q h0 h1)
  refine lv_iconst (v := 0) hx hb dX8_begin_40 (by decide) ?_
  refine lv_istore_n (lv' := [(1, .int 0), (0, .ref w)]) hx hb dX8_begin_41 rfl hl (by decide) rfl (fun ls hl => ?_)
  refine lv_iload_n hx hb dX8_begin_42 rfl (lv_at hl 0 rfl) ?_
  refine lv_bipush (v := 8) hx hb dX8_begin_43 (by decide) ?_
  refine jic_ge (tgt := 62) hx hb dX8_begin_45 (by decide) (fun cq9_ => absurd cq9_ (by decide)) (fun cq9_ => ?_)
  refine lv_aload_n hx hb dX8_begin_48 rfl (lv_at hl 1 rfl) ?_
  refine xg hC hK hH flX8_9 hc_w rfl dX8_begin_49 ?_
  refine lv_iload_n hx hb dX8_begin_52 rfl (lv_at hl 0 rfl) ?_
  refine lv_bipush (v := 100) hx hb dX8_begin_53 (by decide) ?_
  refine yist (x := 100) hC hK hH hc_cs (iIn (by decide) (by decide)) dX8_begin_55 (fun Hq_ lcq_ Mq10_ hc_cs hfr hH => ?_)
  have hc_cs : Mq10_ cs = some (.inl (kA 0, 8, .inl (upd f (Int32.toNatClampNeg 0) 100))) := hc_cs
  have hc_w : Mq10_ w = some (.inr (6, [.int 0, .int 2, .int 0, .int 0, .int 0, .int 0, .int 0, .int (-1), .ref cs, .ref bs, .ref tp])) := (hfr w n_w_cs).trans hc_w
  have hF : ∀ q, q ≠ w → q ≠ cs → Mq10_ q = M q := fun q h0 h1 => (hfr q h1).trans (hF q h0 h1)
  refine lv_iinc (v := 1) (lv' := [(1, .int 1), (0, .ref w)]) hx hb dX8_begin_56 hl (k := 0) rfl (by decide) (by decide) rfl (fun ls hl => ?_)
  refine lv_goto (tgt := 42) hx hb dX8_begin_59 (by decide) ?_
  refine lv_iload_n hx hb dX8_begin_42 rfl (lv_at hl 0 rfl) ?_
  refine lv_bipush (v := 8) hx hb dX8_begin_43 (by decide) ?_
  refine jic_ge (tgt := 62) hx hb dX8_begin_45 (by decide) (fun cq11_ => absurd cq11_ (by decide)) (fun cq11_ => ?_)
  refine lv_aload_n hx hb dX8_begin_48 rfl (lv_at hl 1 rfl) ?_
  refine xg hC hK hH flX8_9 hc_w rfl dX8_begin_49 ?_
  refine lv_iload_n hx hb dX8_begin_52 rfl (lv_at hl 0 rfl) ?_
  refine lv_bipush (v := 100) hx hb dX8_begin_53 (by decide) ?_
  refine yist (x := 100) hC hK hH hc_cs (iIn (by decide) (by decide)) dX8_begin_55 (fun Hq_ lcq_ Mq12_ hc_cs hfr hH => ?_)
  have hc_cs : Mq12_ cs = some (.inl (kA 0, 8, .inl (upd (upd f (Int32.toNatClampNeg 0) 100) (Int32.toNatClampNeg 1) 100))) := hc_cs
  have hc_w : Mq12_ w = some (.inr (6, [.int 0, .int 2, .int 0, .int 0, .int 0, .int 0, .int 0, .int (-1), .ref cs, .ref bs, .ref tp])) := (hfr w n_w_cs).trans hc_w
  have hF : ∀ q, q ≠ w → q ≠ cs → Mq12_ q = M q := fun q h0 h1 => (hfr q h1).trans (hF q h0 h1)
  refine lv_iinc (v := 2) (lv' := [(1, .int 2), (0, .ref w)]) hx hb dX8_begin_56 hl (k := 0) rfl (by decide) (by decide) rfl (fun ls hl => ?_)
  refine lv_goto (tgt := 42) hx hb dX8_begin_59 (by decide) ?_
  refine lv_iload_n hx hb dX8_begin_42 rfl (lv_at hl 0 rfl) ?_
  refine lv_bipush (v := 8) hx hb dX8_begin_43 (by decide) ?_
  refine jic_ge (tgt := 62) hx hb dX8_begin_45 (by decide) (fun cq13_ => absurd cq13_ (by decide)) (fun cq13_ => ?_)
  refine lv_aload_n hx hb dX8_begin_48 rfl (lv_at hl 1 rfl) ?_
  refine xg hC hK hH flX8_9 hc_w rfl dX8_begin_49 ?_
  refine lv_iload_n hx hb dX8_begin_52 rfl (lv_at hl 0 rfl) ?_
  refine lv_bipush (v := 100) hx hb dX8_begin_53 (by decide) ?_
  refine yist (x := 100) hC hK hH hc_cs (iIn (by decide) (by decide)) dX8_begin_55 (fun Hq_ lcq_ Mq14_ hc_cs hfr hH => ?_)
  have hc_cs : Mq14_ cs = some (.inl (kA 0, 8, .inl (upd (upd (upd f (Int32.toNatClampNeg 0) 100) (Int32.toNatClampNeg 1) 100) (Int32.toNatClampNeg 2) 100))) := hc_cs
  have hc_w : Mq14_ w = some (.inr (6, [.int 0, .int 2, .int 0, .int 0, .int 0, .int 0, .int 0, .int (-1), .ref cs, .ref bs, .ref tp])) := (hfr w n_w_cs).trans hc_w
  have hF : ∀ q, q ≠ w → q ≠ cs → Mq14_ q = M q := fun q h0 h1 => (hfr q h1).trans (hF q h0 h1)
  refine lv_iinc (v := 3) (lv' := [(1, .int 3), (0, .ref w)]) hx hb dX8_begin_56 hl (k := 0) rfl (by decide) (by decide) rfl (fun ls hl => ?_)
  refine lv_goto (tgt := 42) hx hb dX8_begin_59 (by decide) ?_
  refine lv_iload_n hx hb dX8_begin_42 rfl (lv_at hl 0 rfl) ?_
  refine lv_bipush (v := 8) hx hb dX8_begin_43 (by decide) ?_
  refine jic_ge (tgt := 62) hx hb dX8_begin_45 (by decide) (fun cq15_ => absurd cq15_ (by decide)) (fun cq15_ => ?_)
  refine lv_aload_n hx hb dX8_begin_48 rfl (lv_at hl 1 rfl) ?_
  refine xg hC hK hH flX8_9 hc_w rfl dX8_begin_49 ?_
  refine lv_iload_n hx hb dX8_begin_52 rfl (lv_at hl 0 rfl) ?_
  refine lv_bipush (v := 100) hx hb dX8_begin_53 (by decide) ?_
  refine yist (x := 100) hC hK hH hc_cs (iIn (by decide) (by decide)) dX8_begin_55 (fun Hq_ lcq_ Mq16_ hc_cs hfr hH => ?_)
  have hc_cs : Mq16_ cs = some (.inl (kA 0, 8, .inl (upd (upd (upd (upd f (Int32.toNatClampNeg 0) 100) (Int32.toNatClampNeg 1) 100) (Int32.toNatClampNeg 2) 100) (Int32.toNatClampNeg 3) 100))) := hc_cs
  have hc_w : Mq16_ w = some (.inr (6, [.int 0, .int 2, .int 0, .int 0, .int 0, .int 0, .int 0, .int (-1), .ref cs, .ref bs, .ref tp])) := (hfr w n_w_cs).trans hc_w
  have hF : ∀ q, q ≠ w → q ≠ cs → Mq16_ q = M q := fun q h0 h1 => (hfr q h1).trans (hF q h0 h1)
  refine lv_iinc (v := 4) (lv' := [(1, .int 4), (0, .ref w)]) hx hb dX8_begin_56 hl (k := 0) rfl (by decide) (by decide) rfl (fun ls hl => ?_)
  refine lv_goto (tgt := 42) hx hb dX8_begin_59 (by decide) ?_
  refine lv_iload_n hx hb dX8_begin_42 rfl (lv_at hl 0 rfl) ?_
  refine lv_bipush (v := 8) hx hb dX8_begin_43 (by decide) ?_
  refine jic_ge (tgt := 62) hx hb dX8_begin_45 (by decide) (fun cq17_ => absurd cq17_ (by decide)) (fun cq17_ => ?_)
  refine lv_aload_n hx hb dX8_begin_48 rfl (lv_at hl 1 rfl) ?_
  refine xg hC hK hH flX8_9 hc_w rfl dX8_begin_49 ?_
  refine lv_iload_n hx hb dX8_begin_52 rfl (lv_at hl 0 rfl) ?_
  refine lv_bipush (v := 100) hx hb dX8_begin_53 (by decide) ?_
  refine yist (x := 100) hC hK hH hc_cs (iIn (by decide) (by decide)) dX8_begin_55 (fun Hq_ lcq_ Mq18_ hc_cs hfr hH => ?_)
  have hc_cs : Mq18_ cs = some (.inl (kA 0, 8, .inl (upd (upd (upd (upd (upd f (Int32.toNatClampNeg 0) 100) (Int32.toNatClampNeg 1) 100) (Int32.toNatClampNeg 2) 100) (Int32.toNatClampNeg 3) 100) (Int32.toNatClampNeg 4) 100))) := hc_cs
  have hc_w : Mq18_ w = some (.inr (6, [.int 0, .int 2, .int 0, .int 0, .int 0, .int 0, .int 0, .int (-1), .ref cs, .ref bs, .ref tp])) := (hfr w n_w_cs).trans hc_w
  have hF : ∀ q, q ≠ w → q ≠ cs → Mq18_ q = M q := fun q h0 h1 => (hfr q h1).trans (hF q h0 h1)
  refine lv_iinc (v := 5) (lv' := [(1, .int 5), (0, .ref w)]) hx hb dX8_begin_56 hl (k := 0) rfl (by decide) (by decide) rfl (fun ls hl => ?_)
  refine lv_goto (tgt := 42) hx hb dX8_begin_59 (by decide) ?_
  refine lv_iload_n hx hb dX8_begin_42 rfl (lv_at hl 0 rfl) ?_
  refine lv_bipush (v := 8) hx hb dX8_begin_43 (by decide) ?_
  refine jic_ge (tgt := 62) hx hb dX8_begin_45 (by decide) (fun cq19_ => absurd cq19_ (by decide)) (fun cq19_ => ?_)
  refine lv_aload_n hx hb dX8_begin_48 rfl (lv_at hl 1 rfl) ?_
  refine xg hC hK hH flX8_9 hc_w rfl dX8_begin_49 ?_
  refine lv_iload_n hx hb dX8_begin_52 rfl (lv_at hl 0 rfl) ?_
  refine lv_bipush (v := 100) hx hb dX8_begin_53 (by decide) ?_
  refine yist (x := 100) hC hK hH hc_cs (iIn (by decide) (by decide)) dX8_begin_55 (fun Hq_ lcq_ Mq20_ hc_cs hfr hH => ?_)
  have hc_cs : Mq20_ cs = some (.inl (kA 0, 8, .inl (upd (upd (upd (upd (upd (upd f (Int32.toNatClampNeg 0) 100) (Int32.toNatClampNeg 1) 100) (Int32.toNatClampNeg 2) 100) (Int32.toNatClampNeg 3) 100) (Int32.toNatClampNeg 4) 100) (Int32.toNatClampNeg 5) 100))) := hc_cs
  have hc_w : Mq20_ w = some (.inr (6, [.int 0, .int 2, .int 0, .int 0, .int 0, .int 0, .int 0, .int (-1), .ref cs, .ref bs, .ref tp])) := (hfr w n_w_cs).trans hc_w
  have hF : ∀ q, q ≠ w → q ≠ cs → Mq20_ q = M q := fun q h0 h1 => (hfr q h1).trans (hF q h0 h1)
  refine lv_iinc (v := 6) (lv' := [(1, .int 6), (0, .ref w)]) hx hb dX8_begin_56 hl (k := 0) rfl (by decide) (by decide) rfl (fun ls hl => ?_)
  refine lv_goto (tgt := 42) hx hb dX8_begin_59 (by decide) ?_
  refine lv_iload_n hx hb dX8_begin_42 rfl (lv_at hl 0 rfl) ?_
  refine lv_bipush (v := 8) hx hb dX8_begin_43 (by decide) ?_
  refine jic_ge (tgt := 62) hx hb dX8_begin_45 (by decide) (fun cq21_ => absurd cq21_ (by decide)) (fun cq21_ => ?_)
  refine lv_aload_n hx hb dX8_begin_48 rfl (lv_at hl 1 rfl) ?_
  refine xg hC hK hH flX8_9 hc_w rfl dX8_begin_49 ?_
  refine lv_iload_n hx hb dX8_begin_52 rfl (lv_at hl 0 rfl) ?_
  refine lv_bipush (v := 100) hx hb dX8_begin_53 (by decide) ?_
  refine yist (x := 100) hC hK hH hc_cs (iIn (by decide) (by decide)) dX8_begin_55 (fun Hq_ lcq_ Mq22_ hc_cs hfr hH => ?_)
  have hc_cs : Mq22_ cs = some (.inl (kA 0, 8, .inl (upd (upd (upd (upd (upd (upd (upd f (Int32.toNatClampNeg 0) 100) (Int32.toNatClampNeg 1) 100) (Int32.toNatClampNeg 2) 100) (Int32.toNatClampNeg 3) 100) (Int32.toNatClampNeg 4) 100) (Int32.toNatClampNeg 5) 100) (Int32.toNatClampNeg 6) 100))) := hc_cs
  have hc_w : Mq22_ w = some (.inr (6, [.int 0, .int 2, .int 0, .int 0, .int 0, .int 0, .int 0, .int (-1), .ref cs, .ref bs, .ref tp])) := (hfr w n_w_cs).trans hc_w
  have hF : ∀ q, q ≠ w → q ≠ cs → Mq22_ q = M q := fun q h0 h1 => (hfr q h1).trans (hF q h0 h1)
  refine lv_iinc (v := 7) (lv' := [(1, .int 7), (0, .ref w)]) hx hb dX8_begin_56 hl (k := 0) rfl (by decide) (by decide) rfl (fun ls hl => ?_)
  refine lv_goto (tgt := 42) hx hb dX8_begin_59 (by decide) ?_
  refine lv_iload_n hx hb dX8_begin_42 rfl (lv_at hl 0 rfl) ?_
  refine lv_bipush (v := 8) hx hb dX8_begin_43 (by decide) ?_
  refine jic_ge (tgt := 62) hx hb dX8_begin_45 (by decide) (fun cq23_ => absurd cq23_ (by decide)) (fun cq23_ => ?_)
  refine lv_aload_n hx hb dX8_begin_48 rfl (lv_at hl 1 rfl) ?_
  refine xg hC hK hH flX8_9 hc_w rfl dX8_begin_49 ?_
  refine lv_iload_n hx hb dX8_begin_52 rfl (lv_at hl 0 rfl) ?_
  refine lv_bipush (v := 100) hx hb dX8_begin_53 (by decide) ?_
  refine yist (x := 100) hC hK hH hc_cs (iIn (by decide) (by decide)) dX8_begin_55 (fun Hq_ lcq_ Mq24_ hc_cs hfr hH => ?_)
  have hc_cs : Mq24_ cs = some (.inl (kA 0, 8, .inl (upd (upd (upd (upd (upd (upd (upd (upd f (Int32.toNatClampNeg 0) 100) (Int32.toNatClampNeg 1) 100) (Int32.toNatClampNeg 2) 100) (Int32.toNatClampNeg 3) 100) (Int32.toNatClampNeg 4) 100) (Int32.toNatClampNeg 5) 100) (Int32.toNatClampNeg 6) 100) (Int32.toNatClampNeg 7) 100))) := hc_cs
  have hc_w : Mq24_ w = some (.inr (6, [.int 0, .int 2, .int 0, .int 0, .int 0, .int 0, .int 0, .int (-1), .ref cs, .ref bs, .ref tp])) := (hfr w n_w_cs).trans hc_w
  have hF : ∀ q, q ≠ w → q ≠ cs → Mq24_ q = M q := fun q h0 h1 => (hfr q h1).trans (hF q h0 h1)
  refine lv_iinc (v := 8) (lv' := [(1, .int 8), (0, .ref w)]) hx hb dX8_begin_56 hl (k := 0) rfl (by decide) (by decide) rfl (fun ls hl => ?_)
  refine lv_goto (tgt := 42) hx hb dX8_begin_59 (by decide) ?_
  refine lv_iload_n hx hb dX8_begin_42 rfl (lv_at hl 0 rfl) ?_
  refine lv_bipush (v := 8) hx hb dX8_begin_43 (by decide) ?_
  refine jic_ge (tgt := 62) hx hb dX8_begin_45 (by decide) (fun cq25_ => ?_) (fun cq25_ => absurd cq25_ (by decide))
  exact ret_v hC hr hlk hK hH (⟨⟨hc_w, hc_cs⟩, rfl, hF⟩) (Nat.le_of_ble_eq_true rfl) (Nat.le_of_ble_eq_true rfl) dX8_begin_62
set_option maxHeartbeats 4000000 in
set_option maxRecDepth 100000 in
theorem c_X8_cashOfAll {l : Launch} {D : va_G} {kA : Nat → ClassId} {M : mM} {T : mT} {sz : Nat} {w cs bs tp : Nat} {td gd bc py rf lt tl fp : Int32} {f : Nat → Int32} (hc_w : M w = some (.inr (6, [.int td, .int gd, .int bc, .int py, .int rf, .int lt, .int tl, .int fp, .ref cs, .ref bs, .ref tp]))) (hc_cs : M cs = some (.inl (kA 0, 8, .inl (c100 f)))) : mCi l yX8_cashOfAll cX8_cashOfAll 3 (some .int) 0 0 0 D kA M T sz [.ref w] (fun r u => (r = 800) ∧ u.2 = T ∧ u.1 = M) := by
  unfold mCi
  refine start_W (by decide) (Nat.le_of_ble_eq_true rfl) ?_
  intro p e s m below meth c ls hC hr hlk hnm hK hH hsz hl
  have hx := hC.1
  have hb := hC.2.1
  have hl : lv_has ls 3 [(0, .ref w)] := hl
  have n_w_cs : w ≠ cs := neM hc_w hc_cs (by simp)
  have n_cs_w : cs ≠ w := neM hc_cs hc_w (by simp)
  refine lv_iconst (v := 0) hx hb dX8_cashOfAll_0 (by decide) ?_
  refine lv_istore_n (lv' := [(1, .int 0), (0, .ref w)]) hx hb dX8_cashOfAll_1 rfl hl (by decide) rfl (fun ls hl => ?_)
  refine lv_iconst (v := 0) hx hb dX8_cashOfAll_2 (by decide) ?_
  refine lv_istore_n (lv' := [(2, .int 0), (1, .int 0), (0, .ref w)]) hx hb dX8_cashOfAll_3 rfl hl (by decide) rfl (fun ls hl => ?_)
  refine lv_iload_n hx hb dX8_cashOfAll_4 rfl (lv_at hl 0 rfl) ?_
  refine lv_bipush (v := 8) hx hb dX8_cashOfAll_5 (by decide) ?_
  refine jic_ge (tgt := 25) hx hb dX8_cashOfAll_7 (by decide) (fun cq1_ => absurd cq1_ (by decide)) (fun cq1_ => ?_)
  refine lv_iload_n hx hb dX8_cashOfAll_10 rfl (lv_at hl 1 rfl) ?_
  refine lv_aload_n hx hb dX8_cashOfAll_11 rfl (lv_at hl 2 rfl) ?_
  refine xg hC hK hH flX8_9 hc_w rfl dX8_cashOfAll_12 ?_
  refine lv_iload_n hx hb dX8_cashOfAll_15 rfl (lv_at hl 0 rfl) ?_
  refine xild hC hK hH hc_cs (iIn (by decide) (by decide)) dX8_cashOfAll_16 ?_
  refine lv_cst (v := 100) (c100_at _ (by decide)) ?_
  refine lv_iadd hx hb dX8_cashOfAll_17 ?_
  refine lv_cst (v := 100) (by decide) ?_
  refine lv_istore_n (lv' := [(1, .int 100), (2, .int 0), (0, .ref w)]) hx hb dX8_cashOfAll_18 rfl hl (by decide) rfl (fun ls hl => ?_)
  refine lv_iinc (v := 1) (lv' := [(2, .int 1), (1, .int 100), (0, .ref w)]) hx hb dX8_cashOfAll_19 hl (k := 1) rfl (by decide) (by decide) rfl (fun ls hl => ?_)
  refine lv_goto (tgt := 4) hx hb dX8_cashOfAll_22 (by decide) ?_
  refine lv_iload_n hx hb dX8_cashOfAll_4 rfl (lv_at hl 0 rfl) ?_
  refine lv_bipush (v := 8) hx hb dX8_cashOfAll_5 (by decide) ?_
  refine jic_ge (tgt := 25) hx hb dX8_cashOfAll_7 (by decide) (fun cq2_ => absurd cq2_ (by decide)) (fun cq2_ => ?_)
  refine lv_iload_n hx hb dX8_cashOfAll_10 rfl (lv_at hl 1 rfl) ?_
  refine lv_aload_n hx hb dX8_cashOfAll_11 rfl (lv_at hl 2 rfl) ?_
  refine xg hC hK hH flX8_9 hc_w rfl dX8_cashOfAll_12 ?_
  refine lv_iload_n hx hb dX8_cashOfAll_15 rfl (lv_at hl 0 rfl) ?_
  refine xild hC hK hH hc_cs (iIn (by decide) (by decide)) dX8_cashOfAll_16 ?_
  refine lv_cst (v := 100) (c100_at _ (by decide)) ?_
  refine lv_iadd hx hb dX8_cashOfAll_17 ?_
  refine lv_cst (v := 200) (by decide) ?_
  refine lv_istore_n (lv' := [(1, .int 200), (2, .int 1), (0, .ref w)]) hx hb dX8_cashOfAll_18 rfl hl (by decide) rfl (fun ls hl => ?_)
  refine lv_iinc (v := 2) (lv' := [(2, .int 2), (1, .int 200), (0, .ref w)]) hx hb dX8_cashOfAll_19 hl (k := 1) rfl (by decide) (by decide) rfl (fun ls hl => ?_)
  refine lv_goto (tgt := 4) hx hb dX8_cashOfAll_22 (by decide) ?_
  refine lv_iload_n hx hb dX8_cashOfAll_4 rfl (lv_at hl 0 rfl) ?_
  refine lv_bipush (v := 8) hx hb dX8_cashOfAll_5 (by decide) ?_
  refine jic_ge (tgt := 25) hx hb dX8_cashOfAll_7 (by decide) (fun cq3_ => absurd cq3_ (by decide)) (fun cq3_ => ?_)
  refine lv_iload_n hx hb dX8_cashOfAll_10 rfl (lv_at hl 1 rfl) ?_
  refine lv_aload_n hx hb dX8_cashOfAll_11 rfl (lv_at hl 2 rfl) ?_
  refine xg hC hK hH flX8_9 hc_w rfl dX8_cashOfAll_12 ?_
  refine lv_iload_n hx hb dX8_cashOfAll_15 rfl (lv_at hl 0 rfl) ?_
  refine xild hC hK hH hc_cs (iIn (by decide) (by decide)) dX8_cashOfAll_16 ?_
  refine lv_cst (v := 100) (c100_at _ (by decide)) ?_
  refine lv_iadd hx hb dX8_cashOfAll_17 ?_
  refine lv_cst (v := 300) (by decide) ?_
  refine lv_istore_n (lv' := [(1, .int 300), (2, .int 2), (0, .ref w)]) hx hb dX8_cashOfAll_18 rfl hl (by decide) rfl (fun ls hl => ?_)
  refine lv_iinc (v := 3) (lv' := [(2, .int 3), (1, .int 300), (0, .ref w)]) hx hb dX8_cashOfAll_19 hl (k := 1) rfl (by decide) (by decide) rfl (fun ls hl => ?_)
  refine lv_goto (tgt := 4) hx hb dX8_cashOfAll_22 (by decide) ?_
  refine lv_iload_n hx hb dX8_cashOfAll_4 rfl (lv_at hl 0 rfl) ?_
  refine lv_bipush (v := 8) hx hb dX8_cashOfAll_5 (by decide) ?_
  refine jic_ge (tgt := 25) hx hb dX8_cashOfAll_7 (by decide) (fun cq4_ => absurd cq4_ (by decide)) (fun cq4_ => ?_)
  refine lv_iload_n hx hb dX8_cashOfAll_10 rfl (lv_at hl 1 rfl) ?_
  refine lv_aload_n hx hb dX8_cashOfAll_11 rfl (lv_at hl 2 rfl) ?_
  refine xg hC hK hH flX8_9 hc_w rfl dX8_cashOfAll_12 ?_
  refine lv_iload_n hx hb dX8_cashOfAll_15 rfl (lv_at hl 0 rfl) ?_
  refine xild hC hK hH hc_cs (iIn (by decide) (by decide)) dX8_cashOfAll_16 ?_
  refine lv_cst (v := 100) (c100_at _ (by decide)) ?_
  refine lv_iadd hx hb dX8_cashOfAll_17 ?_
  refine lv_cst (v := 400) (by decide) ?_
  refine lv_istore_n (lv' := [(1, .int 400), (2, .int 3), (0, .ref w)]) hx hb dX8_cashOfAll_18 rfl hl (by decide) rfl (fun ls hl => ?_)
  refine lv_iinc (v := 4) (lv' := [(2, .int 4), (1, .int 400), (0, .ref w)]) hx hb dX8_cashOfAll_19 hl (k := 1) rfl (by decide) (by decide) rfl (fun ls hl => ?_)
  refine lv_goto (tgt := 4) hx hb dX8_cashOfAll_22 (by decide) ?_
  refine lv_iload_n hx hb dX8_cashOfAll_4 rfl (lv_at hl 0 rfl) ?_
  refine lv_bipush (v := 8) hx hb dX8_cashOfAll_5 (by decide) ?_
  refine jic_ge (tgt := 25) hx hb dX8_cashOfAll_7 (by decide) (fun cq5_ => absurd cq5_ (by decide)) (fun cq5_ => ?_)
  refine lv_iload_n hx hb dX8_cashOfAll_10 rfl (lv_at hl 1 rfl) ?_
  refine lv_aload_n hx hb dX8_cashOfAll_11 rfl (lv_at hl 2 rfl) ?_
  refine xg hC hK hH flX8_9 hc_w rfl dX8_cashOfAll_12 ?_
  refine lv_iload_n hx hb dX8_cashOfAll_15 rfl (lv_at hl 0 rfl) ?_
  refine xild hC hK hH hc_cs (iIn (by decide) (by decide)) dX8_cashOfAll_16 ?_
  refine lv_cst (v := 100) (c100_at _ (by decide)) ?_
  refine lv_iadd hx hb dX8_cashOfAll_17 ?_
  refine lv_cst (v := 500) (by decide) ?_
  refine lv_istore_n (lv' := [(1, .int 500), (2, .int 4), (0, .ref w)]) hx hb dX8_cashOfAll_18 rfl hl (by decide) rfl (fun ls hl => ?_)
  refine lv_iinc (v := 5) (lv' := [(2, .int 5), (1, .int 500), (0, .ref w)]) hx hb dX8_cashOfAll_19 hl (k := 1) rfl (by decide) (by decide) rfl (fun ls hl => ?_)
  refine lv_goto (tgt := 4) hx hb dX8_cashOfAll_22 (by decide) ?_
  refine lv_iload_n hx hb dX8_cashOfAll_4 rfl (lv_at hl 0 rfl) ?_
  refine lv_bipush (v := 8) hx hb dX8_cashOfAll_5 (by decide) ?_
  refine jic_ge (tgt := 25) hx hb dX8_cashOfAll_7 (by decide) (fun cq6_ => absurd cq6_ (by decide)) (fun cq6_ => ?_)
  refine lv_iload_n hx hb dX8_cashOfAll_10 rfl (lv_at hl 1 rfl) ?_
  refine lv_aload_n hx hb dX8_cashOfAll_11 rfl (lv_at hl 2 rfl) ?_
  refine xg hC hK hH flX8_9 hc_w rfl dX8_cashOfAll_12 ?_
  refine lv_iload_n hx hb dX8_cashOfAll_15 rfl (lv_at hl 0 rfl) ?_
  refine xild hC hK hH hc_cs (iIn (by decide) (by decide)) dX8_cashOfAll_16 ?_
  refine lv_cst (v := 100) (c100_at _ (by decide)) ?_
  refine lv_iadd hx hb dX8_cashOfAll_17 ?_
  refine lv_cst (v := 600) (by decide) ?_
  refine lv_istore_n (lv' := [(1, .int 600), (2, .int 5), (0, .ref w)]) hx hb dX8_cashOfAll_18 rfl hl (by decide) rfl (fun ls hl => ?_)
  refine lv_iinc (v := 6) (lv' := [(2, .int 6), (1, .int 600), (0, .ref w)]) hx hb dX8_cashOfAll_19 hl (k := 1) rfl (by decide) (by decide) rfl (fun ls hl => ?_)
  refine lv_goto (tgt := 4) hx hb dX8_cashOfAll_22 (by decide) ?_
  refine lv_iload_n hx hb dX8_cashOfAll_4 rfl (lv_at hl 0 rfl) ?_
  refine lv_bipush (v := 8) hx hb dX8_cashOfAll_5 (by decide) ?_
  refine jic_ge (tgt := 25) hx hb dX8_cashOfAll_7 (by decide) (fun cq7_ => absurd cq7_ (by decide)) (fun cq7_ => ?_)
  refine lv_iload_n hx hb dX8_cashOfAll_10 rfl (lv_at hl 1 rfl) ?_
  refine lv_aload_n hx hb dX8_cashOfAll_11 rfl (lv_at hl 2 rfl) ?_
  refine xg hC hK hH flX8_9 hc_w rfl dX8_cashOfAll_12 ?_
  refine lv_iload_n hx hb dX8_cashOfAll_15 rfl (lv_at hl 0 rfl) ?_
  refine xild hC hK hH hc_cs (iIn (by decide) (by decide)) dX8_cashOfAll_16 ?_
  refine lv_cst (v := 100) (c100_at _ (by decide)) ?_
  refine lv_iadd hx hb dX8_cashOfAll_17 ?_
  refine lv_cst (v := 700) (by decide) ?_
  refine lv_istore_n (lv' := [(1, .int 700), (2, .int 6), (0, .ref w)]) hx hb dX8_cashOfAll_18 rfl hl (by decide) rfl (fun ls hl => ?_)
  refine lv_iinc (v := 7) (lv' := [(2, .int 7), (1, .int 700), (0, .ref w)]) hx hb dX8_cashOfAll_19 hl (k := 1) rfl (by decide) (by decide) rfl (fun ls hl => ?_)
  refine lv_goto (tgt := 4) hx hb dX8_cashOfAll_22 (by decide) ?_
  refine lv_iload_n hx hb dX8_cashOfAll_4 rfl (lv_at hl 0 rfl) ?_
  refine lv_bipush (v := 8) hx hb dX8_cashOfAll_5 (by decide) ?_
  refine jic_ge (tgt := 25) hx hb dX8_cashOfAll_7 (by decide) (fun cq8_ => absurd cq8_ (by decide)) (fun cq8_ => ?_)
  refine lv_iload_n hx hb dX8_cashOfAll_10 rfl (lv_at hl 1 rfl) ?_
  refine lv_aload_n hx hb dX8_cashOfAll_11 rfl (lv_at hl 2 rfl) ?_
  refine xg hC hK hH flX8_9 hc_w rfl dX8_cashOfAll_12 ?_
  refine lv_iload_n hx hb dX8_cashOfAll_15 rfl (lv_at hl 0 rfl) ?_
  refine xild hC hK hH hc_cs (iIn (by decide) (by decide)) dX8_cashOfAll_16 ?_
  refine lv_cst (v := 100) (c100_at _ (by decide)) ?_
  refine lv_iadd hx hb dX8_cashOfAll_17 ?_
  refine lv_cst (v := 800) (by decide) ?_
  refine lv_istore_n (lv' := [(1, .int 800), (2, .int 7), (0, .ref w)]) hx hb dX8_cashOfAll_18 rfl hl (by decide) rfl (fun ls hl => ?_)
  refine lv_iinc (v := 8) (lv' := [(2, .int 8), (1, .int 800), (0, .ref w)]) hx hb dX8_cashOfAll_19 hl (k := 1) rfl (by decide) (by decide) rfl (fun ls hl => ?_)
  refine lv_goto (tgt := 4) hx hb dX8_cashOfAll_22 (by decide) ?_
  refine lv_iload_n hx hb dX8_cashOfAll_4 rfl (lv_at hl 0 rfl) ?_
  refine lv_bipush (v := 8) hx hb dX8_cashOfAll_5 (by decide) ?_
  refine jic_ge (tgt := 25) hx hb dX8_cashOfAll_7 (by decide) (fun cq9_ => ?_) (fun cq9_ => absurd cq9_ (by decide))
  refine lv_iload_n hx hb dX8_cashOfAll_25 rfl (lv_at hl 1 rfl) ?_
  exact ret_i hC hr hlk hK hH (⟨rfl, rfl, rfl⟩) (Nat.le_of_ble_eq_true rfl) (Nat.le_of_ble_eq_true rfl) dX8_cashOfAll_26
set_option maxHeartbeats 4000000 in
set_option maxRecDepth 100000 in
theorem c_X8_dishonouredBills {l : Launch} {D : va_G} {kA : Nat → ClassId} {M : mM} {T : mT} {sz : Nat} {w cs bs tp : Nat} {td gd py rf lt tl fp : Int32} (hc_w : M w = some (.inr (6, [.int td, .int gd, .int 0, .int py, .int rf, .int lt, .int tl, .int fp, .ref cs, .ref bs, .ref tp]))) : mCi l yX8_dishonouredBills cX8_dishonouredBills 3 (some .int) 0 0 0 D kA M T sz [.ref w] (fun r u => (r = 0) ∧ u.2 = T ∧ u.1 = M) := by
  unfold mCi
  refine start_W (by decide) (Nat.le_of_ble_eq_true rfl) ?_
  intro p e s m below meth c ls hC hr hlk hnm hK hH hsz hl
  have hx := hC.1
  have hb := hC.2.1
  have hl : lv_has ls 3 [(0, .ref w)] := hl
  refine lv_iconst (v := 0) hx hb dX8_dishonouredBills_0 (by decide) ?_
  refine lv_istore_n (lv' := [(1, .int 0), (0, .ref w)]) hx hb dX8_dishonouredBills_1 rfl hl (by decide) rfl (fun ls hl => ?_)
  refine lv_iconst (v := 0) hx hb dX8_dishonouredBills_2 (by decide) ?_
  refine lv_istore_n (lv' := [(2, .int 0), (1, .int 0), (0, .ref w)]) hx hb dX8_dishonouredBills_3 rfl hl (by decide) rfl (fun ls hl => ?_)
  refine lv_iload_n hx hb dX8_dishonouredBills_4 rfl (lv_at hl 0 rfl) ?_
  refine lv_aload_n hx hb dX8_dishonouredBills_5 rfl (lv_at hl 2 rfl) ?_
  refine xg hC hK hH flX8_36 hc_w rfl dX8_dishonouredBills_6 ?_
  refine jic_ge (tgt := 42) hx hb dX8_dishonouredBills_9 (by decide) (fun cq1_ => ?_) (fun cq1_ => absurd cq1_ (by decide))
  refine lv_iload_n hx hb dX8_dishonouredBills_42 rfl (lv_at hl 1 rfl) ?_
  exact ret_i hC hr hlk hK hH (⟨rfl, rfl, rfl⟩) (Nat.le_of_ble_eq_true rfl) (Nat.le_of_ble_eq_true rfl) dX8_dishonouredBills_43
set_option maxHeartbeats 4000000 in
set_option maxRecDepth 100000 in
theorem c_X8_doneBills {l : Launch} {D : va_G} {kA : Nat → ClassId} {M : mM} {T : mT} {sz : Nat} {w cs bs tp : Nat} {td gd py rf lt tl fp : Int32} (hc_w : M w = some (.inr (6, [.int td, .int gd, .int 0, .int py, .int rf, .int lt, .int tl, .int fp, .ref cs, .ref bs, .ref tp]))) : mCi l yX8_doneBills cX8_doneBills 3 (some .int) 0 0 0 D kA M T sz [.ref w] (fun r u => (r = 0) ∧ u.2 = T ∧ u.1 = M) := by
  unfold mCi
  refine start_W (by decide) (Nat.le_of_ble_eq_true rfl) ?_
  intro p e s m below meth c ls hC hr hlk hnm hK hH hsz hl
  have hx := hC.1
  have hb := hC.2.1
  have hl : lv_has ls 3 [(0, .ref w)] := hl
  refine lv_iconst (v := 0) hx hb dX8_doneBills_0 (by decide) ?_
  refine lv_istore_n (lv' := [(1, .int 0), (0, .ref w)]) hx hb dX8_doneBills_1 rfl hl (by decide) rfl (fun ls hl => ?_)
  refine lv_iconst (v := 0) hx hb dX8_doneBills_2 (by decide) ?_
  refine lv_istore_n (lv' := [(2, .int 0), (1, .int 0), (0, .ref w)]) hx hb dX8_doneBills_3 rfl hl (by decide) rfl (fun ls hl => ?_)
  refine lv_iload_n hx hb dX8_doneBills_4 rfl (lv_at hl 0 rfl) ?_
  refine lv_aload_n hx hb dX8_doneBills_5 rfl (lv_at hl 2 rfl) ?_
  refine xg hC hK hH flX8_36 hc_w rfl dX8_doneBills_6 ?_
  refine jic_ge (tgt := 33) hx hb dX8_doneBills_9 (by decide) (fun cq1_ => ?_) (fun cq1_ => absurd cq1_ (by decide))
  refine lv_iload_n hx hb dX8_doneBills_33 rfl (lv_at hl 1 rfl) ?_
  exact ret_i hC hr hlk hK hH (⟨rfl, rfl, rfl⟩) (Nat.le_of_ble_eq_true rfl) (Nat.le_of_ble_eq_true rfl) dX8_doneBills_34
set_option maxHeartbeats 4000000 in
set_option maxRecDepth 100000 in
theorem c_X8_addNumber {l : Launch} {D : va_G} {kA : Nat → ClassId} {M : mM} {T : mT} {sz : Nat} {w cs bs tp : Nat} {td gd bc py rf lt tl fp : Int32} {n t2 : Int32} (hc_w : M w = some (.inr (6, [.int td, .int gd, .int bc, .int py, .int rf, .int lt, .int tl, .int fp, .ref cs, .ref bs, .ref tp]))) (ht_tp : T tp = some 7) (htl : 0 ≤ tl.toInt ∧ tl.toInt ≤ 596) (ht2 : t2.toInt = tl.toInt + 4) : mCv l yX8_addNumber cX8_addNumber 3 0 0 0 D kA M T sz [.ref w, .int n] (fun u => (u.1 w = some (.inr (6, [.int td, .int gd, .int bc, .int py, .int rf, .int lt, .int t2, .int fp, .ref cs, .ref bs, .ref tp]))) ∧ u.2 = T ∧ (∀ q, q ≠ w → u.1 q = M q)) := by
  unfold mCv
  refine start_W (by decide) (Nat.le_of_ble_eq_true rfl) ?_
  intro p e s m below meth c ls hC hr hlk hnm hK hH hsz hl
  have hx := hC.1
  have hb := hC.2.1
  have hl : lv_has ls 3 [(0, .ref w), (1, .int n)] := hl
  have hF : ∀ q, q ≠ w → M q = M q := fun q _ => rfl
  refine lv_bipush (v := 24) hx hb dX8_addNumber_0 (by decide) ?_
  refine lv_istore_n (lv' := [(2, .int 24), (0, .ref w), (1, .int n)]) hx hb dX8_addNumber_2 rfl hl (by decide) rfl (fun ls hl => ?_)
  refine lv_iload_n hx hb dX8_addNumber_3 rfl (lv_at hl 0 rfl) ?_
  refine jif_lt (tgt := 36) hx hb dX8_addNumber_4 (by decide) (fun cq1_ => absurd cq1_ (by decide)) (fun cq1_ => ?_)
  refine lv_aload_n hx hb dX8_addNumber_7 rfl (lv_at hl 1 rfl) ?_
  refine xg hC hK hH flX8_21 hc_w rfl dX8_addNumber_8 ?_
  refine lv_aload_n hx hb dX8_addNumber_11 rfl (lv_at hl 1 rfl) ?_
  refine xg hC hK hH flX8_48 hc_w rfl dX8_addNumber_12 ?_
  refine lv_iload_n hx hb dX8_addNumber_15 rfl (lv_at hl 2 rfl) ?_
  refine lv_iload_n hx hb dX8_addNumber_16 rfl (lv_at hl 0 rfl) ?_
  refine lv_ishr hx hb dX8_addNumber_17 ?_
  refine lv_topi (fun zq2_ e_zq2_ => ?_)
  refine lv_i2b (v := zq2_.toInt8.toInt32) hx hb dX8_addNumber_18 rfl ?_
  refine tbst (x := zq2_.toInt8.toInt32) hC hK hH ht_tp rfl (iIn (by omega) (by omega)) (nbl _) (nbh _) dX8_addNumber_19 (fun Hq_ lcq_ hH => ?_)
  refine lv_aload_n hx hb dX8_addNumber_20 rfl (lv_at hl 1 rfl) ?_
  refine lv_dup hx hb dX8_addNumber_21 rfl ?_
  refine xg hC hK hH flX8_48 hc_w rfl dX8_addNumber_22 ?_
  refine lv_iconst (v := 1) hx hb dX8_addNumber_25 (by decide) ?_
  refine lv_iadd hx hb dX8_addNumber_26 ?_
  refine lv_topi (fun zq4_ e_zq4_ => ?_)
  have h_zq4_ : zq4_.toInt = tl.toInt + 1 := by rw [e_zq4_, iAdd (by have := iRg tl; have : (1 : Int32).toInt = 1 := rfl; omega) (by have := iRg tl; have : (1 : Int32).toInt = 1 := rfl; omega)]; rfl
  refine yp (v := .int zq4_) hC hK hH flX8_48 hc_w rfl rfl (Nat.le_of_ble_eq_true rfl) dX8_addNumber_27 (fun Hq_ lcq_ Mq5_ hc_w hfr hH => ?_)
  have hc_w : Mq5_ w = some (.inr (6, [.int td, .int gd, .int bc, .int py, .int rf, .int lt, .int zq4_, .int fp, .ref cs, .ref bs, .ref tp])) := hc_w
  have hF : ∀ q, q ≠ w → Mq5_ q = M q := fun q h0 => (hfr q h0).trans (hF q h0)
  refine lv_iinc (v := 16) (lv' := [(2, .int 16), (0, .ref w), (1, .int n)]) hx hb dX8_addNumber_30 hl (k := 0) rfl (by decide) (by decide) rfl (fun ls hl => ?_)
  refine lv_goto (tgt := 3) hx hb dX8_addNumber_33 (by decide) ?_
  refine lv_iload_n hx hb dX8_addNumber_3 rfl (lv_at hl 0 rfl) ?_
  refine jif_lt (tgt := 36) hx hb dX8_addNumber_4 (by decide) (fun cq6_ => absurd cq6_ (by decide)) (fun cq6_ => ?_)
  refine lv_aload_n hx hb dX8_addNumber_7 rfl (lv_at hl 1 rfl) ?_
  refine xg hC hK hH flX8_21 hc_w rfl dX8_addNumber_8 ?_
  refine lv_aload_n hx hb dX8_addNumber_11 rfl (lv_at hl 1 rfl) ?_
  refine xg hC hK hH flX8_48 hc_w rfl dX8_addNumber_12 ?_
  refine lv_iload_n hx hb dX8_addNumber_15 rfl (lv_at hl 2 rfl) ?_
  refine lv_iload_n hx hb dX8_addNumber_16 rfl (lv_at hl 0 rfl) ?_
  refine lv_ishr hx hb dX8_addNumber_17 ?_
  refine lv_topi (fun zq7_ e_zq7_ => ?_)
  refine lv_i2b (v := zq7_.toInt8.toInt32) hx hb dX8_addNumber_18 rfl ?_
  refine tbst (x := zq7_.toInt8.toInt32) hC hK hH ht_tp rfl (iIn (by omega) (by omega)) (nbl _) (nbh _) dX8_addNumber_19 (fun Hq_ lcq_ hH => ?_)
  refine lv_aload_n hx hb dX8_addNumber_20 rfl (lv_at hl 1 rfl) ?_
  refine lv_dup hx hb dX8_addNumber_21 rfl ?_
  refine xg hC hK hH flX8_48 hc_w rfl dX8_addNumber_22 ?_
  refine lv_iconst (v := 1) hx hb dX8_addNumber_25 (by decide) ?_
  refine lv_iadd hx hb dX8_addNumber_26 ?_
  refine lv_topi (fun zq9_ e_zq9_ => ?_)
  have h_zq9_ : zq9_.toInt = zq4_.toInt + 1 := by rw [e_zq9_, iAdd (by have := iRg zq4_; have : (1 : Int32).toInt = 1 := rfl; omega) (by have := iRg zq4_; have : (1 : Int32).toInt = 1 := rfl; omega)]; rfl
  refine yp (v := .int zq9_) hC hK hH flX8_48 hc_w rfl rfl (Nat.le_of_ble_eq_true rfl) dX8_addNumber_27 (fun Hq_ lcq_ Mq10_ hc_w hfr hH => ?_)
  have hc_w : Mq10_ w = some (.inr (6, [.int td, .int gd, .int bc, .int py, .int rf, .int lt, .int zq9_, .int fp, .ref cs, .ref bs, .ref tp])) := hc_w
  have hF : ∀ q, q ≠ w → Mq10_ q = M q := fun q h0 => (hfr q h0).trans (hF q h0)
  refine lv_iinc (v := 8) (lv' := [(2, .int 8), (0, .ref w), (1, .int n)]) hx hb dX8_addNumber_30 hl (k := 0) rfl (by decide) (by decide) rfl (fun ls hl => ?_)
  refine lv_goto (tgt := 3) hx hb dX8_addNumber_33 (by decide) ?_
  refine lv_iload_n hx hb dX8_addNumber_3 rfl (lv_at hl 0 rfl) ?_
  refine jif_lt (tgt := 36) hx hb dX8_addNumber_4 (by decide) (fun cq11_ => absurd cq11_ (by decide)) (fun cq11_ => ?_)
  refine lv_aload_n hx hb dX8_addNumber_7 rfl (lv_at hl 1 rfl) ?_
  refine xg hC hK hH flX8_21 hc_w rfl dX8_addNumber_8 ?_
  refine lv_aload_n hx hb dX8_addNumber_11 rfl (lv_at hl 1 rfl) ?_
  refine xg hC hK hH flX8_48 hc_w rfl dX8_addNumber_12 ?_
  refine lv_iload_n hx hb dX8_addNumber_15 rfl (lv_at hl 2 rfl) ?_
  refine lv_iload_n hx hb dX8_addNumber_16 rfl (lv_at hl 0 rfl) ?_
  refine lv_ishr hx hb dX8_addNumber_17 ?_
  refine lv_topi (fun zq12_ e_zq12_ => ?_)
  refine lv_i2b (v := zq12_.toInt8.toInt32) hx hb dX8_addNumber_18 rfl ?_
  refine tbst (x := zq12_.toInt8.toInt32) hC hK hH ht_tp rfl (iIn (by omega) (by omega)) (nbl _) (nbh _) dX8_addNumber_19 (fun Hq_ lcq_ hH => ?_)
  refine lv_aload_n hx hb dX8_addNumber_20 rfl (lv_at hl 1 rfl) ?_
  refine lv_dup hx hb dX8_addNumber_21 rfl ?_
  refine xg hC hK hH flX8_48 hc_w rfl dX8_addNumber_22 ?_
  refine lv_iconst (v := 1) hx hb dX8_addNumber_25 (by decide) ?_
  refine lv_iadd hx hb dX8_addNumber_26 ?_
  refine lv_topi (fun zq14_ e_zq14_ => ?_)
  have h_zq14_ : zq14_.toInt = zq9_.toInt + 1 := by rw [e_zq14_, iAdd (by have := iRg zq9_; have : (1 : Int32).toInt = 1 := rfl; omega) (by have := iRg zq9_; have : (1 : Int32).toInt = 1 := rfl; omega)]; rfl
  refine yp (v := .int zq14_) hC hK hH flX8_48 hc_w rfl rfl (Nat.le_of_ble_eq_true rfl) dX8_addNumber_27 (fun Hq_ lcq_ Mq15_ hc_w hfr hH => ?_)
  have hc_w : Mq15_ w = some (.inr (6, [.int td, .int gd, .int bc, .int py, .int rf, .int lt, .int zq14_, .int fp, .ref cs, .ref bs, .ref tp])) := hc_w
  have hF : ∀ q, q ≠ w → Mq15_ q = M q := fun q h0 => (hfr q h0).trans (hF q h0)
  refine lv_iinc (v := 0) (lv' := [(2, .int 0), (0, .ref w), (1, .int n)]) hx hb dX8_addNumber_30 hl (k := 0) rfl (by decide) (by decide) rfl (fun ls hl => ?_)
  refine lv_goto (tgt := 3) hx hb dX8_addNumber_33 (by decide) ?_
  refine lv_iload_n hx hb dX8_addNumber_3 rfl (lv_at hl 0 rfl) ?_
  refine jif_lt (tgt := 36) hx hb dX8_addNumber_4 (by decide) (fun cq16_ => absurd cq16_ (by decide)) (fun cq16_ => ?_)
  refine lv_aload_n hx hb dX8_addNumber_7 rfl (lv_at hl 1 rfl) ?_
  refine xg hC hK hH flX8_21 hc_w rfl dX8_addNumber_8 ?_
  refine lv_aload_n hx hb dX8_addNumber_11 rfl (lv_at hl 1 rfl) ?_
  refine xg hC hK hH flX8_48 hc_w rfl dX8_addNumber_12 ?_
  refine lv_iload_n hx hb dX8_addNumber_15 rfl (lv_at hl 2 rfl) ?_
  refine lv_iload_n hx hb dX8_addNumber_16 rfl (lv_at hl 0 rfl) ?_
  refine lv_ishr hx hb dX8_addNumber_17 ?_
  refine lv_topi (fun zq17_ e_zq17_ => ?_)
  refine lv_i2b (v := zq17_.toInt8.toInt32) hx hb dX8_addNumber_18 rfl ?_
  refine tbst (x := zq17_.toInt8.toInt32) hC hK hH ht_tp rfl (iIn (by omega) (by omega)) (nbl _) (nbh _) dX8_addNumber_19 (fun Hq_ lcq_ hH => ?_)
  refine lv_aload_n hx hb dX8_addNumber_20 rfl (lv_at hl 1 rfl) ?_
  refine lv_dup hx hb dX8_addNumber_21 rfl ?_
  refine xg hC hK hH flX8_48 hc_w rfl dX8_addNumber_22 ?_
  refine lv_iconst (v := 1) hx hb dX8_addNumber_25 (by decide) ?_
  refine lv_iadd hx hb dX8_addNumber_26 ?_
  refine lv_topi (fun zq19_ e_zq19_ => ?_)
  have h_zq19_ : zq19_.toInt = zq14_.toInt + 1 := by rw [e_zq19_, iAdd (by have := iRg zq14_; have : (1 : Int32).toInt = 1 := rfl; omega) (by have := iRg zq14_; have : (1 : Int32).toInt = 1 := rfl; omega)]; rfl
  refine yp (v := .int zq19_) hC hK hH flX8_48 hc_w rfl rfl (Nat.le_of_ble_eq_true rfl) dX8_addNumber_27 (fun Hq_ lcq_ Mq20_ hc_w hfr hH => ?_)
  have hc_w : Mq20_ w = some (.inr (6, [.int td, .int gd, .int bc, .int py, .int rf, .int lt, .int zq19_, .int fp, .ref cs, .ref bs, .ref tp])) := hc_w
  have hF : ∀ q, q ≠ w → Mq20_ q = M q := fun q h0 => (hfr q h0).trans (hF q h0)
  refine lv_iinc (v := -8) (lv' := [(2, .int (-8)), (0, .ref w), (1, .int n)]) hx hb dX8_addNumber_30 hl (k := 0) rfl (by decide) (by decide) rfl (fun ls hl => ?_)
  refine lv_goto (tgt := 3) hx hb dX8_addNumber_33 (by decide) ?_
  refine lv_iload_n hx hb dX8_addNumber_3 rfl (lv_at hl 0 rfl) ?_
  refine jif_lt (tgt := 36) hx hb dX8_addNumber_4 (by decide) (fun cq21_ => ?_) (fun cq21_ => absurd cq21_ (by decide))
  have et : zq19_ = t2 := iEq.mpr (by omega)
  have hc_w : Mq20_ w = some (.inr (6, [.int td, .int gd, .int bc, .int py, .int rf, .int lt, .int t2, .int fp, .ref cs, .ref bs, .ref tp])) := by rw [← et]; exact hc_w
  exact ret_v hC hr hlk hK hH (⟨hc_w, rfl, hF⟩) (Nat.le_of_ble_eq_true rfl) (Nat.le_of_ble_eq_true rfl) dX8_addNumber_36
set_option maxHeartbeats 4000000 in
set_option maxRecDepth 100000 in
theorem c_X8_addBytes {l : Launch} {D : va_G} {kA : Nat → ClassId} {M : mM} {T : mT} {sz : Nat} {w cs bs tp : Nat} {td gd bc py rf lt fp : Int32} {a b c_ d e_ : Int32} (hc_w : M w = some (.inr (6, [.int td, .int gd, .int bc, .int py, .int rf, .int lt, .int 0, .int fp, .ref cs, .ref bs, .ref tp]))) (ht_tp : T tp = some 7) : mCi l yX8_addBytes cX8_addBytes 6 (some .int) 1 0 0 D kA M T sz [.ref w, .int a, .int b, .int c_, .int d, .int e_] (fun r u => (r = 20 ∧ u.1 w = some (.inr (6, [.int td, .int gd, .int bc, .int py, .int rf, .int lt, .int 20, .int fp, .ref cs, .ref bs, .ref tp]))) ∧ u.2 = T ∧ (∀ q, q ≠ w → u.1 q = M q)) := by
  unfold mCi
  refine start_W (by decide) (Nat.le_of_ble_eq_true rfl) ?_
  intro p e s m below meth c ls hC hr hlk hnm hK hH hsz hl
  have hx := hC.1
  have hb := hC.2.1
  have hl : lv_has ls 6 [(0, .ref w), (1, .int a), (2, .int b), (3, .int c_), (4, .int d), (5, .int e_)] := hl
  have hF : ∀ q, q ≠ w → M q = M q := fun q _ => rfl
  refine lv_aload_n hx hb dX8_addBytes_0 rfl (lv_at hl 0 rfl) ?_
  refine xg hC hK hH flX8_48 hc_w rfl dX8_addBytes_1 ?_
  refine lv_sipush (v := 580) hx hb dX8_addBytes_4 (by decide) ?_
  refine jic_le (tgt := 12) hx hb dX8_addBytes_7 (by decide) (fun cq1_ => ?_) (fun cq1_ => absurd cq1_ (by decide))
  refine lv_aload_n hx hb dX8_addBytes_12 rfl (lv_at hl 0 rfl) ?_
  refine lv_iload_n hx hb dX8_addBytes_13 rfl (lv_at hl 1 rfl) ?_
  refine goV hK hH (runV (As := [.int a]) (rest := []) hC hK hH (c_X8_addNumber (t2 := 4) hc_w ht_tp (by decide) (by decide)) mlX8_64 (rcvM hK hH hc_w rfl) ⟨⟨Nat.le_of_ble_eq_true rfl, Nat.le_of_ble_eq_true rfl⟩, Nat.le_of_ble_eq_true rfl, Nat.le_of_ble_eq_true rfl⟩ rfl hl.1 rfl (Nat.le_of_ble_eq_true rfl) dX8_addBytes_14) (fun Mq2_ Tq3_ Hq_ lcq_ hP hz hH => ?_)
  try dsimp only at hP
  obtain ⟨(hx_w), eT, hfr⟩ := hP
  have eT := eT.symm; subst eT
  have hc_w : Mq2_ w = some (.inr (6, [.int td, .int gd, .int bc, .int py, .int rf, .int lt, .int 4, .int fp, .ref cs, .ref bs, .ref tp])) := hx_w
  have hF : ∀ q, q ≠ w → Mq2_ q = M q := fun q h0 => (hfr q h0).trans (hF q h0)
  refine lv_aload_n hx hb dX8_addBytes_17 rfl (lv_at hl 0 rfl) ?_
  refine lv_iload_n hx hb dX8_addBytes_18 rfl (lv_at hl 2 rfl) ?_
  refine goV hK hH (runV (As := [.int b]) (rest := []) hC hK hH (c_X8_addNumber (t2 := 8) hc_w ht_tp (by decide) (by decide)) mlX8_64 (rcvM hK hH hc_w rfl) ⟨⟨Nat.le_of_ble_eq_true rfl, Nat.le_of_ble_eq_true rfl⟩, Nat.le_of_ble_eq_true rfl, Nat.le_of_ble_eq_true rfl⟩ rfl hl.1 rfl (Nat.le_of_ble_eq_true rfl) dX8_addBytes_19) (fun Mq5_ Tq6_ Hq_ lcq_ hP hz hH => ?_)
  try dsimp only at hP
  obtain ⟨(hx_w), eT, hfr⟩ := hP
  have eT := eT.symm; subst eT
  have hc_w : Mq5_ w = some (.inr (6, [.int td, .int gd, .int bc, .int py, .int rf, .int lt, .int 8, .int fp, .ref cs, .ref bs, .ref tp])) := hx_w
  have hF : ∀ q, q ≠ w → Mq5_ q = M q := fun q h0 => (hfr q h0).trans (hF q h0)
  refine lv_aload_n hx hb dX8_addBytes_22 rfl (lv_at hl 0 rfl) ?_
  refine lv_iload_n hx hb dX8_addBytes_23 rfl (lv_at hl 3 rfl) ?_
  refine goV hK hH (runV (As := [.int c_]) (rest := []) hC hK hH (c_X8_addNumber (t2 := 12) hc_w ht_tp (by decide) (by decide)) mlX8_64 (rcvM hK hH hc_w rfl) ⟨⟨Nat.le_of_ble_eq_true rfl, Nat.le_of_ble_eq_true rfl⟩, Nat.le_of_ble_eq_true rfl, Nat.le_of_ble_eq_true rfl⟩ rfl hl.1 rfl (Nat.le_of_ble_eq_true rfl) dX8_addBytes_24) (fun Mq8_ Tq9_ Hq_ lcq_ hP hz hH => ?_)
  try dsimp only at hP
  obtain ⟨(hx_w), eT, hfr⟩ := hP
  have eT := eT.symm; subst eT
  have hc_w : Mq8_ w = some (.inr (6, [.int td, .int gd, .int bc, .int py, .int rf, .int lt, .int 12, .int fp, .ref cs, .ref bs, .ref tp])) := hx_w
  have hF : ∀ q, q ≠ w → Mq8_ q = M q := fun q h0 => (hfr q h0).trans (hF q h0)
  refine lv_aload_n hx hb dX8_addBytes_27 rfl (lv_at hl 0 rfl) ?_
  refine lv_iload hx hb dX8_addBytes_28 (lv_at hl 4 rfl) ?_
  refine goV hK hH (runV (As := [.int d]) (rest := []) hC hK hH (c_X8_addNumber (t2 := 16) hc_w ht_tp (by decide) (by decide)) mlX8_64 (rcvM hK hH hc_w rfl) ⟨⟨Nat.le_of_ble_eq_true rfl, Nat.le_of_ble_eq_true rfl⟩, Nat.le_of_ble_eq_true rfl, Nat.le_of_ble_eq_true rfl⟩ rfl hl.1 rfl (Nat.le_of_ble_eq_true rfl) dX8_addBytes_30) (fun Mq11_ Tq12_ Hq_ lcq_ hP hz hH => ?_)
  try dsimp only at hP
  obtain ⟨(hx_w), eT, hfr⟩ := hP
  have eT := eT.symm; subst eT
  have hc_w : Mq11_ w = some (.inr (6, [.int td, .int gd, .int bc, .int py, .int rf, .int lt, .int 16, .int fp, .ref cs, .ref bs, .ref tp])) := hx_w
  have hF : ∀ q, q ≠ w → Mq11_ q = M q := fun q h0 => (hfr q h0).trans (hF q h0)
  refine lv_aload_n hx hb dX8_addBytes_33 rfl (lv_at hl 0 rfl) ?_
  refine lv_iload hx hb dX8_addBytes_34 (lv_at hl 5 rfl) ?_
  refine goV hK hH (runV (As := [.int e_]) (rest := []) hC hK hH (c_X8_addNumber (t2 := 20) hc_w ht_tp (by decide) (by decide)) mlX8_64 (rcvM hK hH hc_w rfl) ⟨⟨Nat.le_of_ble_eq_true rfl, Nat.le_of_ble_eq_true rfl⟩, Nat.le_of_ble_eq_true rfl, Nat.le_of_ble_eq_true rfl⟩ rfl hl.1 rfl (Nat.le_of_ble_eq_true rfl) dX8_addBytes_36) (fun Mq14_ Tq15_ Hq_ lcq_ hP hz hH => ?_)
  try dsimp only at hP
  obtain ⟨(hx_w), eT, hfr⟩ := hP
  have eT := eT.symm; subst eT
  have hc_w : Mq14_ w = some (.inr (6, [.int td, .int gd, .int bc, .int py, .int rf, .int lt, .int 20, .int fp, .ref cs, .ref bs, .ref tp])) := hx_w
  have hF : ∀ q, q ≠ w → Mq14_ q = M q := fun q h0 => (hfr q h0).trans (hF q h0)
  refine lv_aload_n hx hb dX8_addBytes_39 rfl (lv_at hl 0 rfl) ?_
  refine xg hC hK hH flX8_48 hc_w rfl dX8_addBytes_40 ?_
  exact ret_i hC hr hlk hK hH (⟨⟨rfl, hc_w⟩, rfl, hF⟩) (Nat.le_of_ble_eq_true rfl) (Nat.le_of_ble_eq_true rfl) dX8_addBytes_43
