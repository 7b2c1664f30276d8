set_option maxHeartbeats 4000000 in
set_option maxRecDepth 100000 in
theorem c_X10_begins {l : Launch} {D : va_G} {kA : Nat → ClassId} {M : mM} {T : mT} {sz : Nat} {h al mt ii pa li : Nat} {f : Nat → Int32} (hc_h : M h = some (.inr (8, [.ref al, .ref mt, .ref ii, .int 0, .int (-1), .ref pa, .int 0, .int 0, .int 0, .int 0, .int 0, .long 0, .int 0, .ref li]))) (hc_al : M al = some (.inl (kA 0, 7506, .inl f))) : mCv l yX10_begins cX10_begins 2 0 0 0 D kA M T sz [.ref h] (fun u => ∃ g : Nat → Int32, (∀ j, j < 1140 → g j = mIni j) ∧ (u.1 al = some (.inl (kA 0, 7506, .inl g))) ∧ u.2 = T ∧ (∀ q, q ≠ al → u.1 q = M q)) := by
  unfold mCv
  refine start_W (by decide) (Nat.le_of_ble_eq_true rfl) ?_
  intro p e s m below meth c ls hC hr hlk hnm hK hH hsz hl
  have hx := hC.1
  have hb := hC.2.1
  have hl : lv_has ls 2 [(0, .ref h)] := hl
  have hF : ∀ q, q ≠ al → M q = M q := fun q _ => rfl
  have n_h_al : h ≠ al := neM hc_h hc_al (by simp)
  have n_al_h : al ≠ h := neM hc_al hc_h (by simp)
  refine lv_iconst (v := 0) hx hb dX10_begins_0 (by decide) ?_
  refine lv_istore_n (lv' := [(1, .int 0), (0, .ref h)]) hx hb dX10_begins_1 rfl hl (by decide) rfl (fun ls hl => ?_)
  have loop : ∀ (n : Nat) (iq2_ : Int32) (Hq_ : Heap) (lcq_ : List Loc) (Mq3_ : mM) (ls : Array Slot) (fq1_ : Nat → Int32), iq2_.toInt + (n : Int) = 1140 → 0 ≤ iq2_.toInt → (∀ j : Nat, (j : Int) < iq2_.toInt → fq1_ j = 0) → Mq3_ h = some (.inr (8, [.ref al, .ref mt, .ref ii, .int 0, .int (-1), .ref pa, .int 0, .int 0, .int 0, .int 0, .int 0, .long 0, .int 0, .ref li])) → Mq3_ al = some (.inl (kA 0, 7506, .inl fq1_)) → (∀ q, q ≠ al → Mq3_ q = M q) → mS D kA Mq3_ T (mA M T sz) s.heap Hq_ lcq_ → lv_has ls 2 [(1, .int iq2_), (0, .ref h)] → W p l e (rmL 0 0 0) s m ([.ref h] : List Value).toArray below meth c Hq_ lcq_ 0 0 (MQ below (va_Qv (fun u => ∃ g : Nat → Int32, (∀ j, j < 1140 → g j = mIni j) ∧ (u.1 al = some (.inl (kA 0, 7506, .inl g))) ∧ u.2 = T ∧ (∀ q, q ≠ al → u.1 q = M q)) (mB D kA M T sz) (mA M T sz)) ([.ref h] : List Value).toArray s 0 0 (mA M T sz)) (F0 m 2 ls []) := by
    intro n
    induction n with
    | zero =>
      intro iq2_ Hq_ lcq_ Mq3_ ls fq1_ hi_iq2_ h0_iq2_ h_fq1_ hc_h hc_al hF hH hl
      have hi_iq2_ : iq2_.toInt = 1140 := by omega
      refine lv_iload_n hx hb dX10_begins_2 rfl (lv_at hl 0 rfl) ?_
      refine lv_sipush (v := 1140) hx hb dX10_begins_3 (by decide) ?_
      refine jic_ge (tgt := 22) hx hb dX10_begins_6 (by decide) (fun cq4_ => ?_) (fun cq4_ => absurd cq4_ (by have := iRg iq2_; have : (1140 : Int32).toInt = 1140 := rfl; omega))
      have cq4_ : 1140 ≤ iq2_.toInt := cq4_
      refine lv_aload_n hx hb dX10_begins_22 rfl (lv_at hl 1 rfl) ?_
      refine xg hC hK hH flX10_7 hc_h rfl dX10_begins_23 ?_
      refine lv_iconst (v := 2) hx hb dX10_begins_26 (by decide) ?_
      refine lv_iconst (v := 2) hx hb dX10_begins_27 (by decide) ?_
      refine yist (x := 2) hC hK hH hc_al (iIn (by decide) (by decide)) dX10_begins_28 (fun Hq_ lcq_ Mq5_ hc_al hfr hH => ?_)
      have hc_al : Mq5_ al = some (.inl (kA 0, 7506, .inl (upd fq1_ (Int32.toNatClampNeg 2) 2))) := hc_al
      have hc_h : Mq5_ h = some (.inr (8, [.ref al, .ref mt, .ref ii, .int 0, .int (-1), .ref pa, .int 0, .int 0, .int 0, .int 0, .int 0, .long 0, .int 0, .ref li])) := (hfr h n_h_al).trans hc_h
      have hF : ∀ q, q ≠ al → Mq5_ q = M q := fun q h0 => (hfr q h0).trans (hF q h0)
      refine lv_iconst (v := 0) hx hb dX10_begins_29 (by decide) ?_
      refine lv_istore_n (lv' := [(1, .int 0), (0, .ref h)]) hx hb dX10_begins_30 rfl hl (by decide) rfl (fun ls hl => ?_)
      refine lv_iload_n hx hb dX10_begins_31 rfl (lv_at hl 0 rfl) ?_
      refine lv_bipush (v := 8) hx hb dX10_begins_32 (by decide) ?_
      refine jic_ge (tgt := 54) hx hb dX10_begins_34 (by decide) (fun cq6_ => absurd cq6_ (by decide)) (fun cq6_ => ?_)
      refine lv_aload_n hx hb dX10_begins_37 rfl (lv_at hl 1 rfl) ?_
      refine xg hC hK hH flX10_7 hc_h rfl dX10_begins_38 ?_
      refine lv_bipush (v := 6) hx hb dX10_begins_41 (by decide) ?_
      refine lv_iload_n hx hb dX10_begins_43 rfl (lv_at hl 0 rfl) ?_
      refine lv_iadd hx hb dX10_begins_44 ?_
      refine lv_cst (v := 6) (by decide) ?_
      refine lv_bipush (v := 100) hx hb dX10_begins_45 (by decide) ?_
      refine yist (x := 100) hC hK hH hc_al (iIn (by decide) (by decide)) dX10_begins_47 (fun Hq_ lcq_ Mq7_ hc_al hfr hH => ?_)
      have hc_al : Mq7_ al = some (.inl (kA 0, 7506, .inl (upd (upd fq1_ (Int32.toNatClampNeg 2) 2) (Int32.toNatClampNeg 6) 100))) := hc_al
      have hc_h : Mq7_ h = some (.inr (8, [.ref al, .ref mt, .ref ii, .int 0, .int (-1), .ref pa, .int 0, .int 0, .int 0, .int 0, .int 0, .long 0, .int 0, .ref li])) := (hfr h n_h_al).trans hc_h
      have hF : ∀ q, q ≠ al → Mq7_ q = M q := fun q h0 => (hfr q h0).trans (hF q h0)
      refine lv_iinc (v := 1) (lv' := [(1, .int 1), (0, .ref h)]) hx hb dX10_begins_48 hl (k := 0) rfl (by decide) (by decide) rfl (fun ls hl => ?_)
      refine lv_goto (tgt := 31) hx hb dX10_begins_51 (by decide) ?_
      refine lv_iload_n hx hb dX10_begins_31 rfl (lv_at hl 0 rfl) ?_
      refine lv_bipush (v := 8) hx hb dX10_begins_32 (by decide) ?_
      refine jic_ge (tgt := 54) hx hb dX10_begins_34 (by decide) (fun cq8_ => absurd cq8_ (by decide)) (fun cq8_ => ?_)
      refine lv_aload_n hx hb dX10_begins_37 rfl (lv_at hl 1 rfl) ?_
      refine xg hC hK hH flX10_7 hc_h rfl dX10_begins_38 ?_
      refine lv_bipush (v := 6) hx hb dX10_begins_41 (by decide) ?_
      refine lv_iload_n hx hb dX10_begins_43 rfl (lv_at hl 0 rfl) ?_
      refine lv_iadd hx hb dX10_begins_44 ?_
      refine lv_cst (v := 7) (by decide) ?_
      refine lv_bipush (v := 100) hx hb dX10_begins_45 (by decide) ?_
      refine yist (x := 100) hC hK hH hc_al (iIn (by decide) (by decide)) dX10_begins_47 (fun Hq_ lcq_ Mq9_ hc_al hfr hH => ?_)
      have hc_al : Mq9_ al = some (.inl (kA 0, 7506, .inl (upd (upd (upd fq1_ (Int32.toNatClampNeg 2) 2) (Int32.toNatClampNeg 6) 100) (Int32.toNatClampNeg 7) 100))) := hc_al
      have hc_h : Mq9_ h = some (.inr (8, [.ref al, .ref mt, .ref ii, .int 0, .int (-1), .ref pa, .int 0, .int 0, .int 0, .int 0, .int 0, .long 0, .int 0, .ref li])) := (hfr h n_h_al).trans hc_h
      have hF : ∀ q, q ≠ al → Mq9_ q = M q := fun q h0 => (hfr q h0).trans (hF q h0)
      refine lv_iinc (v := 2) (lv' := [(1, .int 2), (0, .ref h)]) hx hb dX10_begins_48 hl (k := 0) rfl (by decide) (by decide) rfl (fun ls hl => ?_)
      refine lv_goto (tgt := 31) hx hb dX10_begins_51 (by decide) ?_
      refine lv_iload_n hx hb dX10_begins_31 rfl (lv_at hl 0 rfl) ?_
      refine lv_bipush (v := 8) hx hb dX10_begins_32 (by decide) ?_
      refine jic_ge (tgt := 54) hx hb dX10_begins_34 (by decide) (fun cq10_ => absurd cq10_ (by decide)) (fun cq10_ => ?_)
      refine lv_aload_n hx hb dX10_begins_37 rfl (lv_at hl 1 rfl) ?_
      refine xg hC hK hH flX10_7 hc_h rfl dX10_begins_38 ?_
      refine lv_bipush (v := 6) hx hb dX10_begins_41 (by decide) ?_
      refine lv_iload_n hx hb dX10_begins_43 rfl (lv_at hl 0 rfl) ?_
      refine lv_iadd hx hb dX10_begins_44 ?_
      refine lv_cst (v := 8) (by decide) ?_
      refine lv_bipush (v := 100) hx hb dX10_begins_45 (by decide) ?_
      refine yist (x := 100) hC hK hH hc_al (iIn (by decide) (by decide)) dX10_begins_47 (fun Hq_ lcq_ Mq11_ hc_al hfr hH => ?_)
      have hc_al : Mq11_ al = some (.inl (kA 0, 7506, .inl (upd (upd (upd (upd fq1_ (Int32.toNatClampNeg 2) 2) (Int32.toNatClampNeg 6) 100) (Int32.toNatClampNeg 7) 100) (Int32.toNatClampNeg 8) 100))) := hc_al
      have hc_h : Mq11_ h = some (.inr (8, [.ref al, .ref mt, .ref ii, .int 0, .int (-1), .ref pa, .int 0, .int 0, .int 0, .int 0, .int 0, .long 0, .int 0, .ref li])) := (hfr h n_h_al).trans hc_h
      have hF : ∀ q, q ≠ al → Mq11_ q = M q := fun q h0 => (hfr q h0).trans (hF q h0)
      refine lv_iinc (v := 3) (lv' := [(1, .int 3), (0, .ref h)]) hx hb dX10_begins_48 hl (k := 0) rfl (by decide) (by decide) rfl (fun ls hl => ?_)
      refine lv_goto (tgt := 31) hx hb dX10_begins_51 (by decide) ?_
      refine lv_iload_n hx hb dX10_begins_31 rfl (lv_at hl 0 rfl) ?_
      refine lv_bipush (v := 8) hx hb dX10_begins_32 (by decide) ?_
      refine jic_ge (tgt := 54) hx hb dX10_begins_34 (by decide) (fun cq12_ => absurd cq12_ (by decide)) (fun cq12_ => ?_)
      refine lv_aload_n hx hb dX10_begins_37 rfl (lv_at hl 1 rfl) ?_
      refine xg hC hK hH flX10_7 hc_h rfl dX10_begins_38 ?_
      refine lv_bipush (v := 6) hx hb dX10_begins_41 (by decide) ?_
      refine lv_iload_n hx hb dX10_begins_43 rfl (lv_at hl 0 rfl) ?_
      refine lv_iadd hx hb dX10_begins_44 ?_
      refine lv_cst (v := 9) (by decide) ?_
      refine lv_bipush (v := 100) hx hb dX10_begins_45 (by decide) ?_
      refine yist (x := 100) hC hK hH hc_al (iIn (by decide) (by decide)) dX10_begins_47 (fun Hq_ lcq_ Mq13_ hc_al hfr hH => ?_)
      have hc_al : Mq13_ al = some (.inl (kA 0, 7506, .inl (upd (upd (upd (upd (upd fq1_ (Int32.toNatClampNeg 2) 2) (Int32.toNatClampNeg 6) 100) (Int32.toNatClampNeg 7) 100) (Int32.toNatClampNeg 8) 100) (Int32.toNatClampNeg 9) 100))) := hc_al
      have hc_h : Mq13_ h = some (.inr (8, [.ref al, .ref mt, .ref ii, .int 0, .int (-1), .ref pa, .int 0, .int 0, .int 0, .int 0, .int 0, .long 0, .int 0, .ref li])) := (hfr h n_h_al).trans hc_h
      have hF : ∀ q, q ≠ al → Mq13_ q = M q := fun q h0 => (hfr q h0).trans (hF q h0)
      refine lv_iinc (v := 4) (lv' := [(1, .int 4), (0, .ref h)]) hx hb dX10_begins_48 hl (k := 0) rfl (by decide) (by decide) rfl (fun ls hl => ?_)
      refine lv_goto (tgt := 31) hx hb dX10_begins_51 (by decide) ?_
      refine lv_iload_n hx hb dX10_begins_31 rfl (lv_at hl 0 rfl) ?_
      refine lv_bipush (v := 8) hx hb dX10_begins_32 (by decide) ?_
      refine jic_ge (tgt := 54) hx hb dX10_begins_34 (by decide) (fun cq14_ => absurd cq14_ (by decide)) (fun cq14_ => ?_)
      refine lv_aload_n hx hb dX10_begins_37 rfl (lv_at hl 1 rfl) ?_
      refine xg hC hK hH flX10_7 hc_h rfl dX10_begins_38 ?_
      refine lv_bipush (v := 6) hx hb dX10_begins_41 (by decide) ?_
      refine lv_iload_n hx hb dX10_begins_43 rfl (lv_at hl 0 rfl) ?_
      refine lv_iadd hx hb dX10_begins_44 ?_
      refine lv_cst (v := 10) (by decide) ?_
      refine lv_bipush (v := 100) hx hb dX10_begins_45 (by decide) ?_
      refine yist (x := 100) hC hK hH hc_al (iIn (by decide) (by decide)) dX10_begins_47 (fun Hq_ lcq_ Mq15_ hc_al hfr hH => ?_)
      have hc_al : Mq15_ al = some (.inl (kA 0, 7506, .inl (upd (upd (upd (upd (upd (upd fq1_ (Int32.toNatClampNeg 2) 2) (Int32.toNatClampNeg 6) 100) (Int32.toNatClampNeg 7) 100) (Int32.toNatClampNeg 8) 100) (Int32.toNatClampNeg 9) 100) (Int32.toNatClampNeg 10) 100))) := hc_al
      have hc_h : Mq15_ h = some (.inr (8, [.ref al, .ref mt, .ref ii, .int 0, .int (-1), .ref pa, .int 0, .int 0, .int 0, .int 0, .int 0, .long 0, .int 0, .ref li])) := (hfr h n_h_al).trans hc_h
      have hF : ∀ q, q ≠ al → Mq15_ q = M q := fun q h0 => (hfr q h0).trans (hF q h0)
      refine lv_iinc (v := 5) (lv' := [(1, .int 5), (0, .ref h)]) hx hb dX10_begins_48 hl (k := 0) rfl (by decide) (by decide) rfl (fun ls hl => ?_)
      refine lv_goto (tgt := 31) hx hb dX10_begins_51 (by decide) ?_
      refine lv_iload_n hx hb dX10_begins_31 rfl (lv_at hl 0 rfl) ?_
      refine lv_bipush (v := 8) hx hb dX10_begins_32 (by decide) ?_
      refine jic_ge (tgt := 54) hx hb dX10_begins_34 (by decide) (fun cq16_ => absurd cq16_ (by decide)) (fun cq16_ => ?_)
      refine lv_aload_n hx hb dX10_begins_37 rfl (lv_at hl 1 rfl) ?_
      refine xg hC hK hH flX10_7 hc_h rfl dX10_begins_38 ?_
      refine lv_bipush (v := 6) hx hb dX10_begins_41 (by decide) ?_
      refine lv_iload_n hx hb dX10_begins_43 rfl (lv_at hl 0 rfl) ?_
      refine lv_iadd hx hb dX10_begins_44 ?_
      refine lv_cst (v := 11) (by decide) ?_
      refine lv_bipush (v := 100) hx hb dX10_begins_45 (by decide) ?_
      refine yist (x := 100) hC hK hH hc_al (iIn (by decide) (by decide)) dX10_begins_47 (fun Hq_ lcq_ Mq17_ hc_al hfr hH => ?_)
      have hc_al : Mq17_ al = some (.inl (kA 0, 7506, .inl (upd (upd (upd (upd (upd (upd (upd fq1_ (Int32.toNatClampNeg 2) 2) (Int32.toNatClampNeg 6) 100) (Int32.toNatClampNeg 7) 100) (Int32.toNatClampNeg 8) 100) (Int32.toNatClampNeg 9) 100) (Int32.toNatClampNeg 10) 100) (Int32.toNatClampNeg 11) 100))) := hc_al
      have hc_h : Mq17_ h = some (.inr (8, [.ref al, .ref mt, .ref ii, .int 0, .int (-1), .ref pa, .int 0, .int 0, .int 0, .int 0, .int 0, .long 0, .int 0, .ref li])) := (hfr h n_h_al).trans hc_h
      have hF : ∀ q, q ≠ al → Mq17_ q = M q := fun q h0 => (hfr q h0).trans (hF q h0)
      refine lv_iinc (v := 6) (lv' := [(1, .int 6), (0, .ref h)]) hx hb dX10_begins_48 hl (k := 0) rfl (by decide) (by decide) rfl (fun ls hl => ?_)
      refine lv_goto (tgt := 31) hx hb dX10_begins_51 (by decide) ?_
      refine lv_iload_n hx hb dX10_begins_31 rfl (lv_at hl 0 rfl) ?_
      refine lv_bipush (v := 8) hx hb dX10_begins_32 (by decide) ?_
      refine jic_ge (tgt := 54) hx hb dX10_begins_34 (by decide) (fun cq18_ => absurd cq18_ (by decide)) (fun cq18_ => ?_)
      refine lv_aload_n hx hb dX10_begins_37 rfl (lv_at hl 1 rfl) ?_
      refine xg hC hK hH flX10_7 hc_h rfl dX10_begins_38 ?_
      refine lv_bipush (v := 6) hx hb dX10_begins_41 (by decide) ?_
      refine lv_iload_n hx hb dX10_begins_43 rfl (lv_at hl 0 rfl) ?_
      refine lv_iadd hx hb dX10_begins_44 ?_
      refine lv_cst (v := 12) (by decide) ?_
      refine lv_bipush (v := 100) hx hb dX10_begins_45 (by decide) ?_
      refine yist (x := 100) hC hK hH hc_al (iIn (by decide) (by decide)) dX10_begins_47 (fun Hq_ lcq_ Mq19_ hc_al hfr hH => ?_)
      have hc_al : Mq19_ al = some (.inl (kA 0, 7506, .inl (upd (upd (upd (upd (upd (upd (upd (upd fq1_ (Int32.toNatClampNeg 2) 2) (Int32.toNatClampNeg 6) 100) (Int32.toNatClampNeg 7) 100) (Int32.toNatClampNeg 8) 100) (Int32.toNatClampNeg 9) 100) (Int32.toNatClampNeg 10) 100) (Int32.toNatClampNeg 11) 100) (Int32.toNatClampNeg 12) 100))) := hc_al
      have hc_h : Mq19_ h = some (.inr (8, [.ref al, .ref mt, .ref ii, .int 0, .int (-1), .ref pa, .int 0, .int 0, .int 0, .int 0, .int 0, .long 0, .int 0, .ref li])) := (hfr h n_h_al).trans hc_h
      have hF : ∀ q, q ≠ al → Mq19_ q = M q := fun q h0 => (hfr q h0).trans (hF q h0)
      refine lv_iinc (v := 7) (lv' := [(1, .int 7), (0, .ref h)]) hx hb dX10_begins_48 hl (k := 0) rfl (by decide) (by decide) rfl (fun ls hl => ?_)
      refine lv_goto (tgt := 31) hx hb dX10_begins_51 (by decide) ?_
      refine lv_iload_n hx hb dX10_begins_31 rfl (lv_at hl 0 rfl) ?_
      refine lv_bipush (v := 8) hx hb dX10_begins_32 (by decide) ?_
      refine jic_ge (tgt := 54) hx hb dX10_begins_34 (by decide) (fun cq20_ => absurd cq20_ (by decide)) (fun cq20_ => ?_)
      refine lv_aload_n hx hb dX10_begins_37 rfl (lv_at hl 1 rfl) ?_
      refine xg hC hK hH flX10_7 hc_h rfl dX10_begins_38 ?_
      refine lv_bipush (v := 6) hx hb dX10_begins_41 (by decide) ?_
      refine lv_iload_n hx hb dX10_begins_43 rfl (lv_at hl 0 rfl) ?_
      refine lv_iadd hx hb dX10_begins_44 ?_
      refine lv_cst (v := 13) (by decide) ?_
      refine lv_bipush (v := 100) hx hb dX10_begins_45 (by decide) ?_
      refine yist (x := 100) hC hK hH hc_al (iIn (by decide) (by decide)) dX10_begins_47 (fun Hq_ lcq_ Mq21_ hc_al hfr hH => ?_)
      have hc_al : Mq21_ al = some (.inl (kA 0, 7506, .inl (upd (upd (upd (upd (upd (upd (upd (upd (upd fq1_ (Int32.toNatClampNeg 2) 2) (Int32.toNatClampNeg 6) 100) (Int32.toNatClampNeg 7) 100) (Int32.toNatClampNeg 8) 100) (Int32.toNatClampNeg 9) 100) (Int32.toNatClampNeg 10) 100) (Int32.toNatClampNeg 11) 100) (Int32.toNatClampNeg 12) 100) (Int32.toNatClampNeg 13) 100))) := hc_al
      have hc_h : Mq21_ h = some (.inr (8, [.ref al, .ref mt, .ref ii, .int 0, .int (-1), .ref pa, .int 0, .int 0, .int 0, .int 0, .int 0, .long 0, .int 0, .ref li])) := (hfr h n_h_al).trans hc_h
      have hF : ∀ q, q ≠ al → Mq21_ q = M q := fun q h0 => (hfr q h0).trans (hF q h0)
      refine lv_iinc (v := 8) (lv' := [(1, .int 8), (0, .ref h)]) hx hb dX10_begins_48 hl (k := 0) rfl (by decide) (by decide) rfl (fun ls hl => ?_)
      refine lv_goto (tgt := 31) hx hb dX10_begins_51 (by decide) ?_
      refine lv_iload_n hx hb dX10_begins_31 rfl (lv_at hl 0 rfl) ?_
      refine lv_bipush (v := 8) hx hb dX10_begins_32 (by decide) ?_
      refine jic_ge (tgt := 54) hx hb dX10_begins_34 (by decide) (fun cq22_ => ?_) (fun cq22_ => absurd cq22_ (by decide))
      exact ret_v hC hr hlk hK hH (⟨_, (fun j hj => by
            by_cases e13 : j = 13
            · subst e13; rfl
            by_cases e12 : j = 12
            · subst e12; rfl
            by_cases e11 : j = 11
            · subst e11; rfl
            by_cases e10 : j = 10
            · subst e10; rfl
            by_cases e9 : j = 9
            · subst e9; rfl
            by_cases e8 : j = 8
            · subst e8; rfl
            by_cases e7 : j = 7
            · subst e7; rfl
            by_cases e6 : j = 6
            · subst e6; rfl
            by_cases e2 : j = 2
            · subst e2; rfl
            exact (pk_un e13).trans ((pk_un e12).trans ((pk_un e11).trans ((pk_un e10).trans ((pk_un e9).trans ((pk_un e8).trans ((pk_un e7).trans ((pk_un e6).trans ((pk_un e2).trans ((h_fq1_ j (by omega)).trans (by unfold mIni; rw [if_neg e2, if_neg (by omega)]))))))))))), hc_al, rfl, hF⟩) (Nat.le_of_ble_eq_true rfl) (Nat.le_of_ble_eq_true rfl) dX10_begins_54
    | succ n ih =>
      intro iq2_ Hq_ lcq_ Mq3_ ls fq1_ hi_iq2_ h0_iq2_ h_fq1_ hc_h hc_al hF hH hl
      have hj_iq2_ : iq2_.toInt ≤ 1139 := by omega
      refine lv_iload_n hx hb dX10_begins_2 rfl (lv_at hl 0 rfl) ?_
      refine lv_sipush (v := 1140) hx hb dX10_begins_3 (by decide) ?_
      refine jic_ge (tgt := 22) hx hb dX10_begins_6 (by decide) (fun cq23_ => absurd cq23_ (by have := iRg iq2_; have : (1140 : Int32).toInt = 1140 := rfl; omega)) (fun cq23_ => ?_)
      have cq23_ : iq2_.toInt < 1140 := cq23_
      refine lv_aload_n hx hb dX10_begins_9 rfl (lv_at hl 1 rfl) ?_
      refine xg hC hK hH flX10_7 hc_h rfl dX10_begins_10 ?_
      refine lv_iload_n hx hb dX10_begins_13 rfl (lv_at hl 0 rfl) ?_
      refine lv_iconst (v := 0) hx hb dX10_begins_14 (by decide) ?_
      refine yist (x := 0) hC hK hH hc_al (iIn (by omega) (by omega)) dX10_begins_15 (fun Hq_ lcq_ Mq24_ hc_al hfr hH => ?_)
      have hc_al : Mq24_ al = some (.inl (kA 0, 7506, .inl (upd fq1_ (Int32.toNatClampNeg iq2_) 0))) := hc_al
      have hc_h : Mq24_ h = some (.inr (8, [.ref al, .ref mt, .ref ii, .int 0, .int (-1), .ref pa, .int 0, .int 0, .int 0, .int 0, .int 0, .long 0, .int 0, .ref li])) := (hfr h n_h_al).trans hc_h
      have hF : ∀ q, q ≠ al → Mq24_ q = M q := fun q h0 => (hfr q h0).trans (hF q h0)
      obtain ⟨zq25_, e_zq25_⟩ : ∃ y : Int32, y = iq2_ + 1 := ⟨_, rfl⟩
      refine lv_iinc (v := zq25_) (lv' := [(1, .int zq25_), (0, .ref h)]) hx hb dX10_begins_16 hl (k := 0) rfl (by rw [e_zq25_]; rfl) (by decide) rfl (fun ls hl => ?_)
      have h_zq25_ : zq25_.toInt = iq2_.toInt + 1 := by rw [e_zq25_, iAdd (by have : (1 : Int32).toInt = 1 := rfl; omega) (by have : (1 : Int32).toInt = 1 := rfl; omega)]; rfl
      refine lv_goto (tgt := 2) hx hb dX10_begins_19 (by decide) ?_
      exact ih zq25_ _ _ _ ls _ (by omega) (by omega) (fun j hj => by have e1 := iCl (x := iq2_) (by omega); by_cases hjk : j = Int32.toNatClampNeg iq2_; (rw [hjk]; exact pk_us); (rw [pk_un hjk]; exact h_fq1_ j (by omega))) hc_h hc_al hF hH (lv_sub hl [0, 1] rfl)
  exact loop 1140 0 _ _ _ ls _ (by decide) (by decide) (fun j hj => absurd hj (by have : (0 : Int32).toInt = 0 := rfl; omega)) hc_h hc_al hF hH hl
set_option maxHeartbeats 4000000 in
set_option maxRecDepth 100000 in
theorem c_X10_clears_204 {l : Launch} {D : va_G} {kA : Nat → ClassId} {M : mM} {T : mT} {sz : Nat} {h al mt ii pa li : Nat} {f : Nat → Int32} (hc_h : M h = some (.inr (8, [.ref al, .ref mt, .ref ii, .int 0, .int (-1), .ref pa, .int 0, .int 0, .int 0, .int 0, .int 0, .long 0, .int 0, .ref li]))) (hc_al : M al = some (.inl (kA 0, 7506, .inl f))) : mCv l yX10_clears cX10_clears 3 0 0 0 D kA M T sz [.ref h, .int 204] (fun u => ∃ g : Nat → Int32, (∀ j, j < 204 → g j = f j) ∧ (u.1 al = some (.inl (kA 0, 7506, .inl g))) ∧ u.2 = T ∧ (∀ q, q ≠ al → u.1 q = M q)) := by
  unfold mCv
  refine start_W (by decide) (Nat.le_of_ble_eq_true rfl) ?_
  intro p e s m below meth c ls hC hr hlk hnm hK hH hsz hl
  have hx := hC.1
  have hb := hC.2.1
  have hl : lv_has ls 3 [(0, .ref h), (1, .int 204)] := hl
  have hF : ∀ q, q ≠ al → M q = M q := fun q _ => rfl
  have n_h_al : h ≠ al := neM hc_h hc_al (by simp)
  have n_al_h : al ≠ h := neM hc_al hc_h (by simp)
  refine lv_iconst (v := 0) hx hb dX10_clears_0 (by decide) ?_
  refine lv_istore_n (lv' := [(2, .int 0), (0, .ref h), (1, .int 204)]) hx hb dX10_clears_1 rfl hl (by decide) rfl (fun ls hl => ?_)
  refine lv_iload_n hx hb dX10_clears_2 rfl (lv_at hl 0 rfl) ?_
  refine lv_bipush (v := 6) hx hb dX10_clears_3 (by decide) ?_
  refine jic_ge (tgt := 23) hx hb dX10_clears_5 (by decide) (fun cq1_ => absurd cq1_ (by decide)) (fun cq1_ => ?_)
  refine lv_aload_n hx hb dX10_clears_8 rfl (lv_at hl 1 rfl) ?_
  refine xg hC hK hH flX10_7 hc_h rfl dX10_clears_9 ?_
  refine lv_iload_n hx hb dX10_clears_12 rfl (lv_at hl 2 rfl) ?_
  refine lv_iload_n hx hb dX10_clears_13 rfl (lv_at hl 0 rfl) ?_
  refine lv_iadd hx hb dX10_clears_14 ?_
  refine lv_cst (v := 204) (by decide) ?_
  refine lv_iconst (v := 0) hx hb dX10_clears_15 (by decide) ?_
  refine yist (x := 0) hC hK hH hc_al (iIn (by decide) (by decide)) dX10_clears_16 (fun Hq_ lcq_ Mq2_ hc_al hfr hH => ?_)
  have hc_al : Mq2_ al = some (.inl (kA 0, 7506, .inl (upd f (Int32.toNatClampNeg 204) 0))) := hc_al
  have hc_h : Mq2_ h = some (.inr (8, [.ref al, .ref mt, .ref ii, .int 0, .int (-1), .ref pa, .int 0, .int 0, .int 0, .int 0, .int 0, .long 0, .int 0, .ref li])) := (hfr h n_h_al).trans hc_h
  have hF : ∀ q, q ≠ al → Mq2_ q = M q := fun q h0 => (hfr q h0).trans (hF q h0)
  refine lv_iinc (v := 1) (lv' := [(2, .int 1), (0, .ref h), (1, .int 204)]) hx hb dX10_clears_17 hl (k := 0) rfl (by decide) (by decide) rfl (fun ls hl => ?_)
  refine lv_goto (tgt := 2) hx hb dX10_clears_20 (by decide) ?_
  refine lv_iload_n hx hb dX10_clears_2 rfl (lv_at hl 0 rfl) ?_
  refine lv_bipush (v := 6) hx hb dX10_clears_3 (by decide) ?_
  refine jic_ge (tgt := 23) hx hb dX10_clears_5 (by decide) (fun cq3_ => absurd cq3_ (by decide)) (fun cq3_ => ?_)
  refine lv_aload_n hx hb dX10_clears_8 rfl (lv_at hl 1 rfl) ?_
  refine xg hC hK hH flX10_7 hc_h rfl dX10_clears_9 ?_
  refine lv_iload_n hx hb dX10_clears_12 rfl (lv_at hl 2 rfl) ?_
  refine lv_iload_n hx hb dX10_clears_13 rfl (lv_at hl 0 rfl) ?_
  refine lv_iadd hx hb dX10_clears_14 ?_
  refine lv_cst (v := 205) (by decide) ?_
  refine lv_iconst (v := 0) hx hb dX10_clears_15 (by decide) ?_
  refine yist (x := 0) hC hK hH hc_al (iIn (by decide) (by decide)) dX10_clears_16 (fun Hq_ lcq_ Mq4_ hc_al hfr hH => ?_)
  have hc_al : Mq4_ al = some (.inl (kA 0, 7506, .inl (upd (upd f (Int32.toNatClampNeg 204) 0) (Int32.toNatClampNeg 205) 0))) := hc_al
  have hc_h : Mq4_ h = some (.inr (8, [.ref al, .ref mt, .ref ii, .int 0, .int (-1), .ref pa, .int 0, .int 0, .int 0, .int 0, .int 0, .long 0, .int 0, .ref li])) := (hfr h n_h_al).trans hc_h
  have hF : ∀ q, q ≠ al → Mq4_ q = M q := fun q h0 => (hfr q h0).trans (hF q h0)
  refine lv_iinc (v := 2) (lv' := [(2, .int 2), (0, .ref h), (1, .int 204)]) hx hb dX10_clears_17 hl (k := 0) rfl (by decide) (by decide) rfl (fun ls hl => ?_)
  refine lv_goto (tgt := 2) hx hb dX10_clears_20 (by decide) ?_
  refine lv_iload_n hx hb dX10_clears_2 rfl (lv_at hl 0 rfl) ?_
  refine lv_bipush (v := 6) hx hb dX10_clears_3 (by decide) ?_
  refine jic_ge (tgt := 23) hx hb dX10_clears_5 (by decide) (fun cq5_ => absurd cq5_ (by decide)) (fun cq5_ => ?_)
  refine lv_aload_n hx hb dX10_clears_8 rfl (lv_at hl 1 rfl) ?_
  refine xg hC hK hH flX10_7 hc_h rfl dX10_clears_9 ?_
  refine lv_iload_n hx hb dX10_clears_12 rfl (lv_at hl 2 rfl) ?_
  refine lv_iload_n hx hb dX10_clears_13 rfl (lv_at hl 0 rfl) ?_
  refine lv_iadd hx hb dX10_clears_14 ?_
  refine lv_cst (v := 206) (by decide) ?_
  refine lv_iconst (v := 0) hx hb dX10_clears_15 (by decide) ?_
  refine yist (x := 0) hC hK hH hc_al (iIn (by decide) (by decide)) dX10_clears_16 (fun Hq_ lcq_ Mq6_ hc_al hfr hH => ?_)
  have hc_al : Mq6_ al = some (.inl (kA 0, 7506, .inl (upd (upd (upd f (Int32.toNatClampNeg 204) 0) (Int32.toNatClampNeg 205) 0) (Int32.toNatClampNeg 206) 0))) := hc_al
  have hc_h : Mq6_ h = some (.inr (8, [.ref al, .ref mt, .ref ii, .int 0, .int (-1), .ref pa, .int 0, .int 0, .int 0, .int 0, .int 0, .long 0, .int 0, .ref li])) := (hfr h n_h_al).trans hc_h
  have hF : ∀ q, q ≠ al → Mq6_ q = M q := fun q h0 => (hfr q h0).trans (hF q h0)
  refine lv_iinc (v := 3) (lv' := [(2, .int 3), (0, .ref h), (1, .int 204)]) hx hb dX10_clears_17 hl (k := 0) rfl (by decide) (by decide) rfl (fun ls hl => ?_)
  refine lv_goto (tgt := 2) hx hb dX10_clears_20 (by decide) ?_
  refine lv_iload_n hx hb dX10_clears_2 rfl (lv_at hl 0 rfl) ?_
  refine lv_bipush (v := 6) hx hb dX10_clears_3 (by decide) ?_
  refine jic_ge (tgt := 23) hx hb dX10_clears_5 (by decide) (fun cq7_ => absurd cq7_ (by decide)) (fun cq7_ => ?_)
  refine lv_aload_n hx hb dX10_clears_8 rfl (lv_at hl 1 rfl) ?_
  refine xg hC hK hH flX10_7 hc_h rfl dX10_clears_9 ?_
  refine lv_iload_n hx hb dX10_clears_12 rfl (lv_at hl 2 rfl) ?_
  refine lv_iload_n hx hb dX10_clears_13 rfl (lv_at hl 0 rfl) ?_
  refine lv_iadd hx hb dX10_clears_14 ?_
  refine lv_cst (v := 207) (by decide) ?_
  refine lv_iconst (v := 0) hx hb dX10_clears_15 (by decide) ?_
  refine yist (x := 0) hC hK hH hc_al (iIn (by decide) (by decide)) dX10_clears_16 (fun Hq_ lcq_ Mq8_ hc_al hfr hH => ?_)
  have hc_al : Mq8_ al = some (.inl (kA 0, 7506, .inl (upd (upd (upd (upd f (Int32.toNatClampNeg 204) 0) (Int32.toNatClampNeg 205) 0) (Int32.toNatClampNeg 206) 0) (Int32.toNatClampNeg 207) 0))) := hc_al
  have hc_h : Mq8_ h = some (.inr (8, [.ref al, .ref mt, .ref ii, .int 0, .int (-1), .ref pa, .int 0, .int 0, .int 0, .int 0, .int 0, .long 0, .int 0, .ref li])) := (hfr h n_h_al).trans hc_h
  have hF : ∀ q, q ≠ al → Mq8_ q = M q := fun q h0 => (hfr q h0).trans (hF q h0)
  refine lv_iinc (v := 4) (lv' := [(2, .int 4), (0, .ref h), (1, .int 204)]) hx hb dX10_clears_17 hl (k := 0) rfl (by decide) (by decide) rfl (fun ls hl => ?_)
  refine lv_goto (tgt := 2) hx hb dX10_clears_20 (by decide) ?_
  refine lv_iload_n hx hb dX10_clears_2 rfl (lv_at hl 0 rfl) ?_
  refine lv_bipush (v := 6) hx hb dX10_clears_3 (by decide) ?_
  refine jic_ge (tgt := 23) hx hb dX10_clears_5 (by decide) (fun cq9_ => absurd cq9_ (by decide)) (fun cq9_ => ?_)
  refine lv_aload_n hx hb dX10_clears_8 rfl (lv_at hl 1 rfl) ?_
  refine xg hC hK hH flX10_7 hc_h rfl dX10_clears_9 ?_
  refine lv_iload_n hx hb dX10_clears_12 rfl (lv_at hl 2 rfl) ?_
  refine lv_iload_n hx hb dX10_clears_13 rfl (lv_at hl 0 rfl) ?_
  refine lv_iadd hx hb dX10_clears_14 ?_
  refine lv_cst (v := 208) (by decide) ?_
  refine lv_iconst (v := 0) hx hb dX10_clears_15 (by decide) ?_
  refine yist (x := 0) hC hK hH hc_al (iIn (by decide) (by decide)) dX10_clears_16 (fun Hq_ lcq_ Mq10_ hc_al hfr hH => ?_)
  have hc_al : Mq10_ al = some (.inl (kA 0, 7506, .inl (upd (upd (upd (upd (upd f (Int32.toNatClampNeg 204) 0) (Int32.toNatClampNeg 205) 0) (Int32.toNatClampNeg 206) 0) (Int32.toNatClampNeg 207) 0) (Int32.toNatClampNeg 208) 0))) := hc_al
  have hc_h : Mq10_ h = some (.inr (8, [.ref al, .ref mt, .ref ii, .int 0, .int (-1), .ref pa, .int 0, .int 0, .int 0, .int 0, .int 0, .long 0, .int 0, .ref li])) := (hfr h n_h_al).trans hc_h
  have hF : ∀ q, q ≠ al → Mq10_ q = M q := fun q h0 => (hfr q h0).trans (hF q h0)
  refine lv_iinc (v := 5) (lv' := [(2, .int 5), (0, .ref h), (1, .int 204)]) hx hb dX10_clears_17 hl (k := 0) rfl (by decide) (by decide) rfl (fun ls hl => ?_)
  refine lv_goto (tgt := 2) hx hb dX10_clears_20 (by decide) ?_
  refine lv_iload_n hx hb dX10_clears_2 rfl (lv_at hl 0 rfl) ?_
  refine lv_bipush (v := 6) hx hb dX10_clears_3 (by decide) ?_
  refine jic_ge (tgt := 23) hx hb dX10_clears_5 (by decide) (fun cq11_ => absurd cq11_ (by decide)) (fun cq11_ => ?_)
  refine lv_aload_n hx hb dX10_clears_8 rfl (lv_at hl 1 rfl) ?_
  refine xg hC hK hH flX10_7 hc_h rfl dX10_clears_9 ?_
  refine lv_iload_n hx hb dX10_clears_12 rfl (lv_at hl 2 rfl) ?_
  refine lv_iload_n hx hb dX10_clears_13 rfl (lv_at hl 0 rfl) ?_
  refine lv_iadd hx hb dX10_clears_14 ?_
  refine lv_cst (v := 209) (by decide) ?_
  refine lv_iconst (v := 0) hx hb dX10_clears_15 (by decide) ?_
  refine yist (x := 0) hC hK hH hc_al (iIn (by decide) (by decide)) dX10_clears_16 (fun Hq_ lcq_ Mq12_ hc_al hfr hH => ?_)
  have hc_al : Mq12_ al = some (.inl (kA 0, 7506, .inl (upd (upd (upd (upd (upd (upd f (Int32.toNatClampNeg 204) 0) (Int32.toNatClampNeg 205) 0) (Int32.toNatClampNeg 206) 0) (Int32.toNatClampNeg 207) 0) (Int32.toNatClampNeg 208) 0) (Int32.toNatClampNeg 209) 0))) := hc_al
  have hc_h : Mq12_ h = some (.inr (8, [.ref al, .ref mt, .ref ii, .int 0, .int (-1), .ref pa, .int 0, .int 0, .int 0, .int 0, .int 0, .long 0, .int 0, .ref li])) := (hfr h n_h_al).trans hc_h
  have hF : ∀ q, q ≠ al → Mq12_ q = M q := fun q h0 => (hfr q h0).trans (hF q h0)
  refine lv_iinc (v := 6) (lv' := [(2, .int 6), (0, .ref h), (1, .int 204)]) hx hb dX10_clears_17 hl (k := 0) rfl (by decide) (by decide) rfl (fun ls hl => ?_)
  refine lv_goto (tgt := 2) hx hb dX10_clears_20 (by decide) ?_
  refine lv_iload_n hx hb dX10_clears_2 rfl (lv_at hl 0 rfl) ?_
  refine lv_bipush (v := 6) hx hb dX10_clears_3 (by decide) ?_
  refine jic_ge (tgt := 23) hx hb dX10_clears_5 (by decide) (fun cq13_ => ?_) (fun cq13_ => absurd cq13_ (by decide))
  refine lv_aload_n hx hb dX10_clears_23 rfl (lv_at hl 1 rfl) ?_
  refine xg hC hK hH flX10_7 hc_h rfl dX10_clears_24 ?_
  refine lv_iload_n hx hb dX10_clears_27 rfl (lv_at hl 2 rfl) ?_
  refine lv_iconst (v := 0) hx hb dX10_clears_28 (by decide) ?_
  refine lv_iadd hx hb dX10_clears_29 ?_
  refine lv_cst (v := 204) (by decide) ?_
  refine lv_iconst (v := -1) hx hb dX10_clears_30 (by decide) ?_
  refine yist (x := -1) hC hK hH hc_al (iIn (by decide) (by decide)) dX10_clears_31 (fun Hq_ lcq_ Mq14_ hc_al hfr hH => ?_)
  have hc_al : Mq14_ al = some (.inl (kA 0, 7506, .inl (upd (upd (upd (upd (upd (upd (upd f (Int32.toNatClampNeg 204) 0) (Int32.toNatClampNeg 205) 0) (Int32.toNatClampNeg 206) 0) (Int32.toNatClampNeg 207) 0) (Int32.toNatClampNeg 208) 0) (Int32.toNatClampNeg 209) 0) (Int32.toNatClampNeg 204) (-1)))) := hc_al
  have hc_h : Mq14_ h = some (.inr (8, [.ref al, .ref mt, .ref ii, .int 0, .int (-1), .ref pa, .int 0, .int 0, .int 0, .int 0, .int 0, .long 0, .int 0, .ref li])) := (hfr h n_h_al).trans hc_h
  have hF : ∀ q, q ≠ al → Mq14_ q = M q := fun q h0 => (hfr q h0).trans (hF q h0)
  exact ret_v hC hr hlk hK hH (⟨_, fun j hj => ((pk_un (by have : Int32.toNatClampNeg 204 = 204 := rfl; omega)).trans ((pk_un (by have : Int32.toNatClampNeg 209 = 209 := rfl; omega)).trans ((pk_un (by have : Int32.toNatClampNeg 208 = 208 := rfl; omega)).trans ((pk_un (by have : Int32.toNatClampNeg 207 = 207 := rfl; omega)).trans ((pk_un (by have : Int32.toNatClampNeg 206 = 206 := rfl; omega)).trans ((pk_un (by have : Int32.toNatClampNeg 205 = 205 := rfl; omega)).trans ((pk_un (by have : Int32.toNatClampNeg 204 = 204 := rfl; omega)).trans rfl))))))), hc_al, rfl, hF⟩) (Nat.le_of_ble_eq_true rfl) (Nat.le_of_ble_eq_true rfl) dX10_clears_32
set_option maxHeartbeats 4000000 in
set_option maxRecDepth 100000 in
theorem c_X10_clears_210 {l : Launch} {D : va_G} {kA : Nat → ClassId} {M : mM} {T : mT} {sz : Nat} {h al mt ii pa li : Nat} {f : Nat → Int32} (hc_h : M h = some (.inr (8, [.ref al, .ref mt, .ref ii, .int 0, .int (-1), .ref pa, .int 0, .int 0, .int 0, .int 0, .int 0, .long 0, .int 0, .ref li]))) (hc_al : M al = some (.inl (kA 0, 7506, .inl f))) : mCv l yX10_clears cX10_clears 3 0 0 0 D kA M T sz [.ref h, .int 210] (fun u => ∃ g : Nat → Int32, (∀ j, j < 204 → g j = f j) ∧ (u.1 al = some (.inl (kA 0, 7506, .inl g))) ∧ u.2 = T ∧ (∀ q, q ≠ al → u.1 q = M q)) := by
  unfold mCv
  refine start_W (by decide) (Nat.le_of_ble_eq_true rfl) ?_
  intro p e s m below meth c ls hC hr hlk hnm hK hH hsz hl
  have hx := hC.1
  have hb := hC.2.1
  have hl : lv_has ls 3 [(0, .ref h), (1, .int 210)] := hl
  have hF : ∀ q, q ≠ al → M q = M q := fun q _ => rfl
  have n_h_al : h ≠ al := neM hc_h hc_al (by simp)
  have n_al_h : al ≠ h := neM hc_al hc_h (by simp)
  refine lv_iconst (v := 0) hx hb dX10_clears_0 (by decide) ?_
  refine lv_istore_n (lv' := [(2, .int 0), (0, .ref h), (1, .int 210)]) hx hb dX10_clears_1 rfl hl (by decide) rfl (fun ls hl => ?_)
  refine lv_iload_n hx hb dX10_clears_2 rfl (lv_at hl 0 rfl) ?_
  refine lv_bipush (v := 6) hx hb dX10_clears_3 (by decide) ?_
  refine jic_ge (tgt := 23) hx hb dX10_clears_5 (by decide) (fun cq1_ => absurd cq1_ (by decide)) (fun cq1_ => ?_)
  refine lv_aload_n hx hb dX10_clears_8 rfl (lv_at hl 1 rfl) ?_
  refine xg hC hK hH flX10_7 hc_h rfl dX10_clears_9 ?_
  refine lv_iload_n hx hb dX10_clears_12 rfl (lv_at hl 2 rfl) ?_
  refine lv_iload_n hx hb dX10_clears_13 rfl (lv_at hl 0 rfl) ?_
  refine lv_iadd hx hb dX10_clears_14 ?_
  refine lv_cst (v := 210) (by decide) ?_
  refine lv_iconst (v := 0) hx hb dX10_clears_15 (by decide) ?_
  refine yist (x := 0) hC hK hH hc_al (iIn (by decide) (by decide)) dX10_clears_16 (fun Hq_ lcq_ Mq2_ hc_al hfr hH => ?_)
  have hc_al : Mq2_ al = some (.inl (kA 0, 7506, .inl (upd f (Int32.toNatClampNeg 210) 0))) := hc_al
  have hc_h : Mq2_ h = some (.inr (8, [.ref al, .ref mt, .ref ii, .int 0, .int (-1), .ref pa, .int 0, .int 0, .int 0, .int 0, .int 0, .long 0, .int 0, .ref li])) := (hfr h n_h_al).trans hc_h
  have hF : ∀ q, q ≠ al → Mq2_ q = M q := fun q h0 => (hfr q h0).trans (hF q h0)
  refine lv_iinc (v := 1) (lv' := [(2, .int 1), (0, .ref h), (1, .int 210)]) hx hb dX10_clears_17 hl (k := 0) rfl (by decide) (by decide) rfl (fun ls hl => ?_)
  refine lv_goto (tgt := 2) hx hb dX10_clears_20 (by decide) ?_
  refine lv_iload_n hx hb dX10_clears_2 rfl (lv_at hl 0 rfl) ?_
  refine lv_bipush (v := 6) hx hb dX10_clears_3 (by decide) ?_
  refine jic_ge (tgt := 23) hx hb dX10_clears_5 (by decide) (fun cq3_ => absurd cq3_ (by decide)) (fun cq3_ => ?_)
  refine lv_aload_n hx hb dX10_clears_8 rfl (lv_at hl 1 rfl) ?_
  refine xg hC hK hH flX10_7 hc_h rfl dX10_clears_9 ?_
  refine lv_iload_n hx hb dX10_clears_12 rfl (lv_at hl 2 rfl) ?_
  refine lv_iload_n hx hb dX10_clears_13 rfl (lv_at hl 0 rfl) ?_
  refine lv_iadd hx hb dX10_clears_14 ?_
  refine lv_cst (v := 211) (by decide) ?_
  refine lv_iconst (v := 0) hx hb dX10_clears_15 (by decide) ?_
  refine yist (x := 0) hC hK hH hc_al (iIn (by decide) (by decide)) dX10_clears_16 (fun Hq_ lcq_ Mq4_ hc_al hfr hH => ?_)
  have hc_al : Mq4_ al = some (.inl (kA 0, 7506, .inl (upd (upd f (Int32.toNatClampNeg 210) 0) (Int32.toNatClampNeg 211) 0))) := hc_al
  have hc_h : Mq4_ h = some (.inr (8, [.ref al, .ref mt, .ref ii, .int 0, .int (-1), .ref pa, .int 0, .int 0, .int 0, .int 0, .int 0, .long 0, .int 0, .ref li])) := (hfr h n_h_al).trans hc_h
  have hF : ∀ q, q ≠ al → Mq4_ q = M q := fun q h0 => (hfr q h0).trans (hF q h0)
  refine lv_iinc (v := 2) (lv' := [(2, .int 2), (0, .ref h), (1, .int 210)]) hx hb dX10_clears_17 hl (k := 0) rfl (by decide) (by decide) rfl (fun ls hl => ?_)
  refine lv_goto (tgt := 2) hx hb dX10_clears_20 (by decide) ?_
  refine lv_iload_n hx hb dX10_clears_2 rfl (lv_at hl 0 rfl) ?_
  refine lv_bipush (v := 6) hx hb dX10_clears_3 (by decide) ?_
  refine jic_ge (tgt := 23) hx hb dX10_clears_5 (by decide) (fun cq5_ => absurd cq5_ (by decide)) (fun cq5_ => ?_)
  refine lv_aload_n hx hb dX10_clears_8 rfl (lv_at hl 1 rfl) ?_
  refine xg hC hK hH flX10_7 hc_h rfl dX10_clears_9 ?_
  refine lv_iload_n hx hb dX10_clears_12 rfl (lv_at hl 2 rfl) ?_
  refine lv_iload_n hx hb dX10_clears_13 rfl (lv_at hl 0 rfl) ?_
  refine lv_iadd hx hb dX10_clears_14 ?_
  refine lv_cst (v := 212) (by decide) ?_
  refine lv_iconst (v := 0) hx hb dX10_clears_15 (by decide) ?_
  refine yist (x := 0) hC hK hH hc_al (iIn (by decide) (by decide)) dX10_clears_16 (fun Hq_ lcq_ Mq6_ hc_al hfr hH => ?_)
  have hc_al : Mq6_ al = some (.inl (kA 0, 7506, .inl (upd (upd (upd f (Int32.toNatClampNeg 210) 0) (Int32.toNatClampNeg 211) 0) (Int32.toNatClampNeg 212) 0))) := hc_al
  have hc_h : Mq6_ h = some (.inr (8, [.ref al, .ref mt, .ref ii, .int 0, .int (-1), .ref pa, .int 0, .int 0, .int 0, .int 0, .int 0, .long 0, .int 0, .ref li])) := (hfr h n_h_al).trans hc_h
  have hF : ∀ q, q ≠ al → Mq6_ q = M q := fun q h0 => (hfr q h0).trans (hF q h0)
  refine lv_iinc (v := 3) (lv' := [(2, .int 3), (0, .ref h), (1, .int 210)]) hx hb dX10_clears_17 hl (k := 0) rfl (by decide) (by decide) rfl (fun ls hl => ?_)
  refine lv_goto (tgt := 2) hx hb dX10_clears_20 (by decide) ?_
  refine lv_iload_n hx hb dX10_clears_2 rfl (lv_at hl 0 rfl) ?_
  refine lv_bipush (v := 6) hx hb dX10_clears_3 (by decide) ?_
  refine jic_ge (tgt := 23) hx hb dX10_clears_5 (by decide) (fun cq7_ => absurd cq7_ (by decide)) (fun cq7_ => ?_)
  refine lv_aload_n hx hb dX10_clears_8 rfl (lv_at hl 1 rfl) ?_
  refine xg hC hK hH flX10_7 hc_h rfl dX10_clears_9 ?_
  refine lv_iload_n hx hb dX10_clears_12 rfl (lv_at hl 2 rfl) ?_
  refine lv_iload_n hx hb dX10_clears_13 rfl (lv_at hl 0 rfl) ?_
  refine lv_iadd hx hb dX10_clears_14 ?_
  refine lv_cst (v := 213) (by decide) ?_
  refine lv_iconst (v := 0) hx hb dX10_clears_15 (by decide) ?_
  refine yist (x := 0) hC hK hH hc_al (iIn (by decide) (by decide)) dX10_clears_16 (fun Hq_ lcq_ Mq8_ hc_al hfr hH => ?_)
  have hc_al : Mq8_ al = some (.inl (kA 0, 7506, .inl (upd (upd (upd (upd f (Int32.toNatClampNeg 210) 0) (Int32.toNatClampNeg 211) 0) (Int32.toNatClampNeg 212) 0) (Int32.toNatClampNeg 213) 0))) := hc_al
  have hc_h : Mq8_ h = some (.inr (8, [.ref al, .ref mt, .ref ii, .int 0, .int (-1), .ref pa, .int 0, .int 0, .int 0, .int 0, .int 0, .long 0, .int 0, .ref li])) := (hfr h n_h_al).trans hc_h
  have hF : ∀ q, q ≠ al → Mq8_ q = M q := fun q h0 => (hfr q h0).trans (hF q h0)
  refine lv_iinc (v := 4) (lv' := [(2, .int 4), (0, .ref h), (1, .int 210)]) hx hb dX10_clears_17 hl (k := 0) rfl (by decide) (by decide) rfl (fun ls hl => ?_)
  refine lv_goto (tgt := 2) hx hb dX10_clears_20 (by decide) ?_
  refine lv_iload_n hx hb dX10_clears_2 rfl (lv_at hl 0 rfl) ?_
  refine lv_bipush (v := 6) hx hb dX10_clears_3 (by decide) ?_
  refine jic_ge (tgt := 23) hx hb dX10_clears_5 (by decide) (fun cq9_ => absurd cq9_ (by decide)) (fun cq9_ => ?_)
  refine lv_aload_n hx hb dX10_clears_8 rfl (lv_at hl 1 rfl) ?_
  refine xg hC hK hH flX10_7 hc_h rfl dX10_clears_9 ?_
  refine lv_iload_n hx hb dX10_clears_12 rfl (lv_at hl 2 rfl) ?_
  refine lv_iload_n hx hb dX10_clears_13 rfl (lv_at hl 0 rfl) ?_
  refine lv_iadd hx hb dX10_clears_14 ?_
  refine lv_cst (v := 214) (by decide) ?_
  refine lv_iconst (v := 0) hx hb dX10_clears_15 (by decide) ?_
  refine yist (x := 0) hC hK hH hc_al (iIn (by decide) (by decide)) dX10_clears_16 (fun Hq_ lcq_ Mq10_ hc_al hfr hH => ?_)
  have hc_al : Mq10_ al = some (.inl (kA 0, 7506, .inl (upd (upd (upd (upd (upd f (Int32.toNatClampNeg 210) 0) (Int32.toNatClampNeg 211) 0) (Int32.toNatClampNeg 212) 0) (Int32.toNatClampNeg 213) 0) (Int32.toNatClampNeg 214) 0))) := hc_al
  have hc_h : Mq10_ h = some (.inr (8, [.ref al, .ref mt, .ref ii, .int 0, .int (-1), .ref pa, .int 0, .int 0, .int 0, .int 0, .int 0, .long 0, .int 0, .ref li])) := (hfr h n_h_al).trans hc_h
  have hF : ∀ q, q ≠ al → Mq10_ q = M q := fun q h0 => (hfr q h0).trans (hF q h0)
  refine lv_iinc (v := 5) (lv' := [(2, .int 5), (0, .ref h), (1, .int 210)]) hx hb dX10_clears_17 hl (k := 0) rfl (by decide) (by decide) rfl (fun ls hl => ?_)
  refine lv_goto (tgt := 2) hx hb dX10_clears_20 (by decide) ?_
  refine lv_iload_n hx hb dX10_clears_2 rfl (lv_at hl 0 rfl) ?_
  refine lv_bipush (v := 6) hx hb dX10_clears_3 (by decide) ?_
  refine jic_ge (tgt := 23) hx hb dX10_clears_5 (by decide) (fun cq11_ => absurd cq11_ (by decide)) (fun cq11_ => ?_)
  refine lv_aload_n hx hb dX10_clears_8 rfl (lv_at hl 1 rfl) ?_
  refine xg hC hK hH flX10_7 hc_h rfl dX10_clears_9 ?_
  refine lv_iload_n hx hb dX10_clears_12 rfl (lv_at hl 2 rfl) ?_
  refine lv_iload_n hx hb dX10_clears_13 rfl (lv_at hl 0 rfl) ?_
  refine lv_iadd hx hb dX10_clears_14 ?_
  refine lv_cst (v := 215) (by decide) ?_
  refine lv_iconst (v := 0) hx hb dX10_clears_15 (by decide) ?_
  refine yist (x := 0) hC hK hH hc_al (iIn (by decide) (by decide)) dX10_clears_16 (fun Hq_ lcq_ Mq12_ hc_al hfr hH => ?_)
  have hc_al : Mq12_ al = some (.inl (kA 0, 7506, .inl (upd (upd (upd (upd (upd (upd f (Int32.toNatClampNeg 210) 0) (Int32.toNatClampNeg 211) 0) (Int32.toNatClampNeg 212) 0) (Int32.toNatClampNeg 213) 0) (Int32.toNatClampNeg 214) 0) (Int32.toNatClampNeg 215) 0))) := hc_al
  have hc_h : Mq12_ h = some (.inr (8, [.ref al, .ref mt, .ref ii, .int 0, .int (-1), .ref pa, .int 0, .int 0, .int 0, .int 0, .int 0, .long 0, .int 0, .ref li])) := (hfr h n_h_al).trans hc_h
  have hF : ∀ q, q ≠ al → Mq12_ q = M q := fun q h0 => (hfr q h0).trans (hF q h0)
  refine lv_iinc (v := 6) (lv' := [(2, .int 6), (0, .ref h), (1, .int 210)]) hx hb dX10_clears_17 hl (k := 0) rfl (by decide) (by decide) rfl (fun ls hl => ?_)
  refine lv_goto (tgt := 2) hx hb dX10_clears_20 (by decide) ?_
  refine lv_iload_n hx hb dX10_clears_2 rfl (lv_at hl 0 rfl) ?_
  refine lv_bipush (v := 6) hx hb dX10_clears_3 (by decide) ?_
  refine jic_ge (tgt := 23) hx hb dX10_clears_5 (by decide) (fun cq13_ => ?_) (fun cq13_ => absurd cq13_ (by decide))
  refine lv_aload_n hx hb dX10_clears_23 rfl (lv_at hl 1 rfl) ?_
  refine xg hC hK hH flX10_7 hc_h rfl dX10_clears_24 ?_
  refine lv_iload_n hx hb dX10_clears_27 rfl (lv_at hl 2 rfl) ?_
  refine lv_iconst (v := 0) hx hb dX10_clears_28 (by decide) ?_
  refine lv_iadd hx hb dX10_clears_29 ?_
  refine lv_cst (v := 210) (by decide) ?_
  refine lv_iconst (v := -1) hx hb dX10_clears_30 (by decide) ?_
  refine yist (x := -1) hC hK hH hc_al (iIn (by decide) (by decide)) dX10_clears_31 (fun Hq_ lcq_ Mq14_ hc_al hfr hH => ?_)
  have hc_al : Mq14_ al = some (.inl (kA 0, 7506, .inl (upd (upd (upd (upd (upd (upd (upd f (Int32.toNatClampNeg 210) 0) (Int32.toNatClampNeg 211) 0) (Int32.toNatClampNeg 212) 0) (Int32.toNatClampNeg 213) 0) (Int32.toNatClampNeg 214) 0) (Int32.toNatClampNeg 215) 0) (Int32.toNatClampNeg 210) (-1)))) := hc_al
  have hc_h : Mq14_ h = some (.inr (8, [.ref al, .ref mt, .ref ii, .int 0, .int (-1), .ref pa, .int 0, .int 0, .int 0, .int 0, .int 0, .long 0, .int 0, .ref li])) := (hfr h n_h_al).trans hc_h
  have hF : ∀ q, q ≠ al → Mq14_ q = M q := fun q h0 => (hfr q h0).trans (hF q h0)
  exact ret_v hC hr hlk hK hH (⟨_, fun j hj => ((pk_un (by have : Int32.toNatClampNeg 210 = 210 := rfl; omega)).trans ((pk_un (by have : Int32.toNatClampNeg 215 = 215 := rfl; omega)).trans ((pk_un (by have : Int32.toNatClampNeg 214 = 214 := rfl; omega)).trans ((pk_un (by have : Int32.toNatClampNeg 213 = 213 := rfl; omega)).trans ((pk_un (by have : Int32.toNatClampNeg 212 = 212 := rfl; omega)).trans ((pk_un (by have : Int32.toNatClampNeg 211 = 211 := rfl; omega)).trans ((pk_un (by have : Int32.toNatClampNeg 210 = 210 := rfl; omega)).trans rfl))))))), hc_al, rfl, hF⟩) (Nat.le_of_ble_eq_true rfl) (Nat.le_of_ble_eq_true rfl) dX10_clears_32
set_option maxHeartbeats 4000000 in
set_option maxRecDepth 100000 in
theorem c_X10_startsChain {l : Launch} {D : va_G} {kA : Nat → ClassId} {M : mM} {T : mT} {sz : Nat} {h al mt ii pa li : Nat} {f : Nat → Int32} {pe : Int32} (hc_h : M h = some (.inr (8, [.ref al, .ref mt, .ref ii, .int 0, .int (-1), .ref pa, .int 0, .int 0, .int 0, .int 0, .int 0, .long 0, .int 0, .ref li]))) (hc_al : M al = some (.inl (kA 0, 7506, .inl f))) (h39 : f 39 = -1) (h22 : f 22 = pe) (hpe : 0 ≤ pe.toInt ∧ pe.toInt ≤ 7) : mCv l yX10_startsChain cX10_startsChain 4 0 0 0 D kA M T sz [.ref h, .int 20] (fun u => ∃ g : Nat → Int32, (∀ j, j < 20 → g j = f j) ∧ (u.1 al = some (.inl (kA 0, 7506, .inl g))) ∧ u.2 = T ∧ (∀ q, q ≠ al → u.1 q = M q)) := by
  unfold mCv
  refine start_W (by decide) (Nat.le_of_ble_eq_true rfl) ?_
  intro p e s m below meth c ls hC hr hlk hnm hK hH hsz hl
  have hx := hC.1
  have hb := hC.2.1
  have hl : lv_has ls 4 [(0, .ref h), (1, .int 20)] := hl
  have hF : ∀ q, q ≠ al → M q = M q := fun q _ => rfl
  have n_h_al : h ≠ al := neM hc_h hc_al (by simp)
  have n_al_h : al ≠ h := neM hc_al hc_h (by simp)
  refine lv_aload_n hx hb dX10_startsChain_0 rfl (lv_at hl 0 rfl) ?_
  refine xg hC hK hH flX10_7 hc_h rfl dX10_startsChain_1 ?_
  refine lv_iload_n hx hb dX10_startsChain_4 rfl (lv_at hl 1 rfl) ?_
  refine lv_bipush (v := 19) hx hb dX10_startsChain_5 (by decide) ?_
  refine lv_iadd hx hb dX10_startsChain_7 ?_
  refine lv_cst (v := 39) (by decide) ?_
  refine xild hC hK hH hc_al (iIn (by decide) (by decide)) dX10_startsChain_8 ?_
  refine lv_cst (v := -1) h39 ?_
  refine lv_iconst (v := -1) hx hb dX10_startsChain_9 (by decide) ?_
  refine jic_eq (tgt := 17) hx hb dX10_startsChain_10 (by decide) (fun cq1_ => ?_) (fun cq1_ => absurd cq1_ (by decide))
  refine lv_iconst (v := 0) hx hb dX10_startsChain_17 (by decide) ?_
  refine lv_istore_n (lv' := [(2, .int 0), (0, .ref h), (1, .int 20)]) hx hb dX10_startsChain_18 rfl hl (by decide) rfl (fun ls hl => ?_)
  refine lv_iload_n hx hb dX10_startsChain_19 rfl (lv_at hl 0 rfl) ?_
  refine jif_eq (tgt := 35) hx hb dX10_startsChain_20 (by decide) (fun cq2_ => ?_) (fun cq2_ => absurd cq2_ (by decide))
  refine lv_aload_n hx hb dX10_startsChain_35 rfl (lv_at hl 1 rfl) ?_
  refine xg hC hK hH flX10_7 hc_h rfl dX10_startsChain_36 ?_
  refine lv_iload_n hx hb dX10_startsChain_39 rfl (lv_at hl 2 rfl) ?_
  refine lv_iconst (v := 2) hx hb dX10_startsChain_40 (by decide) ?_
  refine lv_iadd hx hb dX10_startsChain_41 ?_
  refine lv_cst (v := 22) (by decide) ?_
  refine xild hC hK hH hc_al (iIn (by decide) (by decide)) dX10_startsChain_42 ?_
  refine lv_cst (v := pe) h22 ?_
  refine lv_istore_n (lv' := [(3, .int pe), (2, .int 0), (0, .ref h), (1, .int 20)]) hx hb dX10_startsChain_43 rfl hl (by decide) rfl (fun ls hl => ?_)
  refine lv_aload_n hx hb dX10_startsChain_44 rfl (lv_at hl 2 rfl) ?_
  refine xg hC hK hH flX10_7 hc_h rfl dX10_startsChain_45 ?_
  refine lv_iload_n hx hb dX10_startsChain_48 rfl (lv_at hl 3 rfl) ?_
  refine lv_bipush (v := 11) hx hb dX10_startsChain_49 (by decide) ?_
  refine lv_iadd hx hb dX10_startsChain_51 ?_
  refine lv_cst (v := 31) (by decide) ?_
  refine lv_iload_n hx hb dX10_startsChain_52 rfl (lv_at hl 1 rfl) ?_
  refine jif_ne (tgt := 72) hx hb dX10_startsChain_53 (by decide) (fun cq3_ => absurd cq3_ (by decide)) (fun cq3_ => ?_)
  refine lv_aload_n hx hb dX10_startsChain_56 rfl (lv_at hl 2 rfl) ?_
  refine xg hC hK hH flX10_7 hc_h rfl dX10_startsChain_57 ?_
  refine lv_iload_n hx hb dX10_startsChain_60 rfl (lv_at hl 3 rfl) ?_
  refine lv_iconst (v := 5) hx hb dX10_startsChain_61 (by decide) ?_
  refine lv_iadd hx hb dX10_startsChain_62 ?_
  refine lv_cst (v := 25) (by decide) ?_
  refine xild hC hK hH hc_al (iIn (by decide) (by decide)) dX10_startsChain_63 ?_
  refine lv_topi (fun xq4_ e_xq4_ => ?_)
  refine lv_iconst (v := 1) hx hb dX10_startsChain_64 (by decide) ?_
  refine jic_ne (tgt := 72) hx hb dX10_startsChain_65 (by decide) (fun cq5_ => ?_) (fun cq5_ => ?_)
  · skip
    have cq5_ : xq4_.toInt ≠ 1 := cq5_
    refine lv_iconst (v := 0) hx hb dX10_startsChain_72 (by decide) ?_
    refine yist (x := 0) hC hK hH hc_al (iIn (by decide) (by decide)) dX10_startsChain_73 (fun Hq_ lcq_ Mq6_ hc_al hfr hH => ?_)
    have hc_al : Mq6_ al = some (.inl (kA 0, 7506, .inl (upd f (Int32.toNatClampNeg 31) 0))) := hc_al
    have hc_h : Mq6_ h = some (.inr (8, [.ref al, .ref mt, .ref ii, .int 0, .int (-1), .ref pa, .int 0, .int 0, .int 0, .int 0, .int 0, .long 0, .int 0, .ref li])) := (hfr h n_h_al).trans hc_h
    have hF : ∀ q, q ≠ al → Mq6_ q = M q := fun q h0 => (hfr q h0).trans (hF q h0)
    refine lv_aload_n hx hb dX10_startsChain_74 rfl (lv_at hl 2 rfl) ?_
    refine xg hC hK hH flX10_7 hc_h rfl dX10_startsChain_75 ?_
    refine lv_iload_n hx hb dX10_startsChain_78 rfl (lv_at hl 3 rfl) ?_
    refine lv_bipush (v := 12) hx hb dX10_startsChain_79 (by decide) ?_
    refine lv_iadd hx hb dX10_startsChain_81 ?_
    refine lv_cst (v := 32) (by decide) ?_
    refine lv_aload_n hx hb dX10_startsChain_82 rfl (lv_at hl 2 rfl) ?_
    refine xg hC hK hH flX10_7 hc_h rfl dX10_startsChain_83 ?_
    refine lv_iload_n hx hb dX10_startsChain_86 rfl (lv_at hl 3 rfl) ?_
    refine lv_bipush (v := 11) hx hb dX10_startsChain_87 (by decide) ?_
    refine lv_iadd hx hb dX10_startsChain_89 ?_
    refine lv_cst (v := 31) (by decide) ?_
    refine xild hC hK hH hc_al (iIn (by decide) (by decide)) dX10_startsChain_90 ?_
    refine lv_cst (v := 0) pk_us ?_
    refine lv_iconst (v := 1) hx hb dX10_startsChain_91 (by decide) ?_
    refine jic_ne (tgt := 99) hx hb dX10_startsChain_92 (by decide) (fun cq7_ => ?_) (fun cq7_ => absurd cq7_ (by decide))
    refine lv_iload_n hx hb dX10_startsChain_99 rfl (lv_at hl 0 rfl) ?_
    refine yist (x := pe) hC hK hH hc_al (iIn (by decide) (by decide)) dX10_startsChain_100 (fun Hq_ lcq_ Mq8_ hc_al hfr hH => ?_)
    have hc_al : Mq8_ al = some (.inl (kA 0, 7506, .inl (upd (upd f (Int32.toNatClampNeg 31) 0) (Int32.toNatClampNeg 32) pe))) := hc_al
    have hc_h : Mq8_ h = some (.inr (8, [.ref al, .ref mt, .ref ii, .int 0, .int (-1), .ref pa, .int 0, .int 0, .int 0, .int 0, .int 0, .long 0, .int 0, .ref li])) := (hfr h n_h_al).trans hc_h
    have hF : ∀ q, q ≠ al → Mq8_ q = M q := fun q h0 => (hfr q h0).trans (hF q h0)
    refine lv_aload_n hx hb dX10_startsChain_101 rfl (lv_at hl 2 rfl) ?_
    refine xg hC hK hH flX10_7 hc_h rfl dX10_startsChain_102 ?_
    refine lv_iload_n hx hb dX10_startsChain_105 rfl (lv_at hl 3 rfl) ?_
    refine lv_bipush (v := 15) hx hb dX10_startsChain_106 (by decide) ?_
    refine lv_iadd hx hb dX10_startsChain_108 ?_
    refine lv_cst (v := 35) (by decide) ?_
    refine lv_iconst (v := 0) hx hb dX10_startsChain_109 (by decide) ?_
    refine yist (x := 0) hC hK hH hc_al (iIn (by decide) (by decide)) dX10_startsChain_110 (fun Hq_ lcq_ Mq9_ hc_al hfr hH => ?_)
    have hc_al : Mq9_ al = some (.inl (kA 0, 7506, .inl (upd (upd (upd f (Int32.toNatClampNeg 31) 0) (Int32.toNatClampNeg 32) pe) (Int32.toNatClampNeg 35) 0))) := hc_al
    have hc_h : Mq9_ h = some (.inr (8, [.ref al, .ref mt, .ref ii, .int 0, .int (-1), .ref pa, .int 0, .int 0, .int 0, .int 0, .int 0, .long 0, .int 0, .ref li])) := (hfr h n_h_al).trans hc_h
    have hF : ∀ q, q ≠ al → Mq9_ q = M q := fun q h0 => (hfr q h0).trans (hF q h0)
    refine lv_aload_n hx hb dX10_startsChain_111 rfl (lv_at hl 2 rfl) ?_
    refine xg hC hK hH flX10_7 hc_h rfl dX10_startsChain_112 ?_
    refine lv_iload_n hx hb dX10_startsChain_115 rfl (lv_at hl 3 rfl) ?_
    refine lv_bipush (v := 16) hx hb dX10_startsChain_116 (by decide) ?_
    refine lv_iadd hx hb dX10_startsChain_118 ?_
    refine lv_cst (v := 36) (by decide) ?_
    refine lv_iconst (v := -1) hx hb dX10_startsChain_119 (by decide) ?_
    refine yist (x := -1) hC hK hH hc_al (iIn (by decide) (by decide)) dX10_startsChain_120 (fun Hq_ lcq_ Mq10_ hc_al hfr hH => ?_)
    have hc_al : Mq10_ al = some (.inl (kA 0, 7506, .inl (upd (upd (upd (upd f (Int32.toNatClampNeg 31) 0) (Int32.toNatClampNeg 32) pe) (Int32.toNatClampNeg 35) 0) (Int32.toNatClampNeg 36) (-1)))) := hc_al
    have hc_h : Mq10_ h = some (.inr (8, [.ref al, .ref mt, .ref ii, .int 0, .int (-1), .ref pa, .int 0, .int 0, .int 0, .int 0, .int 0, .long 0, .int 0, .ref li])) := (hfr h n_h_al).trans hc_h
    have hF : ∀ q, q ≠ al → Mq10_ q = M q := fun q h0 => (hfr q h0).trans (hF q h0)
    refine lv_aload_n hx hb dX10_startsChain_121 rfl (lv_at hl 2 rfl) ?_
    refine xg hC hK hH flX10_7 hc_h rfl dX10_startsChain_122 ?_
    refine lv_iload_n hx hb dX10_startsChain_125 rfl (lv_at hl 3 rfl) ?_
    refine lv_bipush (v := 17) hx hb dX10_startsChain_126 (by decide) ?_
    refine lv_iadd hx hb dX10_startsChain_128 ?_
    refine lv_cst (v := 37) (by decide) ?_
    refine lv_iconst (v := 0) hx hb dX10_startsChain_129 (by decide) ?_
    refine yist (x := 0) hC hK hH hc_al (iIn (by decide) (by decide)) dX10_startsChain_130 (fun Hq_ lcq_ Mq11_ hc_al hfr hH => ?_)
    have hc_al : Mq11_ al = some (.inl (kA 0, 7506, .inl (upd (upd (upd (upd (upd f (Int32.toNatClampNeg 31) 0) (Int32.toNatClampNeg 32) pe) (Int32.toNatClampNeg 35) 0) (Int32.toNatClampNeg 36) (-1)) (Int32.toNatClampNeg 37) 0))) := hc_al
    have hc_h : Mq11_ h = some (.inr (8, [.ref al, .ref mt, .ref ii, .int 0, .int (-1), .ref pa, .int 0, .int 0, .int 0, .int 0, .int 0, .long 0, .int 0, .ref li])) := (hfr h n_h_al).trans hc_h
    have hF : ∀ q, q ≠ al → Mq11_ q = M q := fun q h0 => (hfr q h0).trans (hF q h0)
    refine lv_aload_n hx hb dX10_startsChain_131 rfl (lv_at hl 2 rfl) ?_
    refine xg hC hK hH flX10_7 hc_h rfl dX10_startsChain_132 ?_
    refine lv_iload_n hx hb dX10_startsChain_135 rfl (lv_at hl 3 rfl) ?_
    refine lv_bipush (v := 13) hx hb dX10_startsChain_136 (by decide) ?_
    refine lv_iadd hx hb dX10_startsChain_138 ?_
    refine lv_cst (v := 33) (by decide) ?_
    refine lv_iload_n hx hb dX10_startsChain_139 rfl (lv_at hl 0 rfl) ?_
    refine yist (x := pe) hC hK hH hc_al (iIn (by decide) (by decide)) dX10_startsChain_140 (fun Hq_ lcq_ Mq12_ hc_al hfr hH => ?_)
    have hc_al : Mq12_ al = some (.inl (kA 0, 7506, .inl (upd (upd (upd (upd (upd (upd f (Int32.toNatClampNeg 31) 0) (Int32.toNatClampNeg 32) pe) (Int32.toNatClampNeg 35) 0) (Int32.toNatClampNeg 36) (-1)) (Int32.toNatClampNeg 37) 0) (Int32.toNatClampNeg 33) pe))) := hc_al
    have hc_h : Mq12_ h = some (.inr (8, [.ref al, .ref mt, .ref ii, .int 0, .int (-1), .ref pa, .int 0, .int 0, .int 0, .int 0, .int 0, .long 0, .int 0, .ref li])) := (hfr h n_h_al).trans hc_h
    have hF : ∀ q, q ≠ al → Mq12_ q = M q := fun q h0 => (hfr q h0).trans (hF q h0)
    refine lv_aload_n hx hb dX10_startsChain_141 rfl (lv_at hl 2 rfl) ?_
    refine xg hC hK hH flX10_7 hc_h rfl dX10_startsChain_142 ?_
    refine lv_iload_n hx hb dX10_startsChain_145 rfl (lv_at hl 3 rfl) ?_
    refine lv_bipush (v := 20) hx hb dX10_startsChain_146 (by decide) ?_
    refine lv_iadd hx hb dX10_startsChain_148 ?_
    refine lv_cst (v := 40) (by decide) ?_
    refine lv_iload_n hx hb dX10_startsChain_149 rfl (lv_at hl 0 rfl) ?_
    refine lv_iadd hx hb dX10_startsChain_150 ?_
    refine lv_topi (fun zq13_ e_zq13_ => ?_)
    have h_zq13_ : zq13_.toInt = 40 + pe.toInt := by rw [e_zq13_, iAdd (by have : (40 : Int32).toInt = 40 := rfl; have := iRg pe; omega) (by have : (40 : Int32).toInt = 40 := rfl; have := iRg pe; omega)]; rfl
    refine lv_aload_n hx hb dX10_startsChain_151 rfl (lv_at hl 2 rfl) ?_
    refine xg hC hK hH flX10_7 hc_h rfl dX10_startsChain_152 ?_
    refine lv_iload_n hx hb dX10_startsChain_155 rfl (lv_at hl 3 rfl) ?_
    refine lv_bipush (v := 20) hx hb dX10_startsChain_156 (by decide) ?_
    refine lv_iadd hx hb dX10_startsChain_158 ?_
    refine lv_cst (v := 40) (by decide) ?_
    refine lv_iload_n hx hb dX10_startsChain_159 rfl (lv_at hl 0 rfl) ?_
    refine lv_iadd hx hb dX10_startsChain_160 ?_
    refine lv_topi (fun zq14_ e_zq14_ => ?_)
    have h_zq14_ : zq14_.toInt = 40 + pe.toInt := by rw [e_zq14_, iAdd (by have : (40 : Int32).toInt = 40 := rfl; have := iRg pe; omega) (by have : (40 : Int32).toInt = 40 := rfl; have := iRg pe; omega)]; rfl
    refine xild hC hK hH hc_al (iIn (by omega) (by omega)) dX10_startsChain_161 ?_
    refine lv_topi (fun xq15_ e_xq15_ => ?_)
    refine jif_ne (tgt := 169) hx hb dX10_startsChain_162 (by decide) (fun cq16_ => ?_) (fun cq16_ => ?_)
    · skip
      have cq16_ : xq15_.toInt ≠ 0 := cq16_
      refine lv_aload_n hx hb dX10_startsChain_169 rfl (lv_at hl 2 rfl) ?_
      refine xg hC hK hH flX10_7 hc_h rfl dX10_startsChain_170 ?_
      refine lv_iload_n hx hb dX10_startsChain_173 rfl (lv_at hl 3 rfl) ?_
      refine lv_bipush (v := 20) hx hb dX10_startsChain_174 (by decide) ?_
      refine lv_iadd hx hb dX10_startsChain_176 ?_
      refine lv_cst (v := 40) (by decide) ?_
      refine lv_iload_n hx hb dX10_startsChain_177 rfl (lv_at hl 0 rfl) ?_
      refine lv_iadd hx hb dX10_startsChain_178 ?_
      refine lv_topi (fun zq17_ e_zq17_ => ?_)
      have h_zq17_ : zq17_.toInt = 40 + pe.toInt := by rw [e_zq17_, iAdd (by have : (40 : Int32).toInt = 40 := rfl; have := iRg pe; omega) (by have : (40 : Int32).toInt = 40 := rfl; have := iRg pe; omega)]; rfl
      refine xild hC hK hH hc_al (iIn (by omega) (by omega)) dX10_startsChain_179 ?_
      refine lv_topi (fun xq18_ e_xq18_ => ?_)
      refine yist (x := xq18_) hC hK hH hc_al (iIn (by omega) (by omega)) dX10_startsChain_180 (fun Hq_ lcq_ Mq19_ hc_al hfr hH => ?_)
      have hc_al : Mq19_ al = some (.inl (kA 0, 7506, .inl (upd (upd (upd (upd (upd (upd (upd f (Int32.toNatClampNeg 31) 0) (Int32.toNatClampNeg 32) pe) (Int32.toNatClampNeg 35) 0) (Int32.toNatClampNeg 36) (-1)) (Int32.toNatClampNeg 37) 0) (Int32.toNatClampNeg 33) pe) (Int32.toNatClampNeg zq13_) xq18_))) := hc_al
      have hc_h : Mq19_ h = some (.inr (8, [.ref al, .ref mt, .ref ii, .int 0, .int (-1), .ref pa, .int 0, .int 0, .int 0, .int 0, .int 0, .long 0, .int 0, .ref li])) := (hfr h n_h_al).trans hc_h
      have hF : ∀ q, q ≠ al → Mq19_ q = M q := fun q h0 => (hfr q h0).trans (hF q h0)
      refine lv_aload_n hx hb dX10_startsChain_181 rfl (lv_at hl 2 rfl) ?_
      refine xg hC hK hH flX10_7 hc_h rfl dX10_startsChain_182 ?_
      refine lv_iload_n hx hb dX10_startsChain_185 rfl (lv_at hl 3 rfl) ?_
      refine lv_bipush (v := 14) hx hb dX10_startsChain_186 (by decide) ?_
      refine lv_iadd hx hb dX10_startsChain_188 ?_
      refine lv_cst (v := 34) (by decide) ?_
      refine lv_aload_n hx hb dX10_startsChain_189 rfl (lv_at hl 2 rfl) ?_
      refine xg hC hK hH flX10_7 hc_h rfl dX10_startsChain_190 ?_
      refine lv_iload_n hx hb dX10_startsChain_193 rfl (lv_at hl 3 rfl) ?_
      refine lv_bipush (v := 20) hx hb dX10_startsChain_194 (by decide) ?_
      refine lv_iadd hx hb dX10_startsChain_196 ?_
      refine lv_cst (v := 40) (by decide) ?_
      refine lv_iload_n hx hb dX10_startsChain_197 rfl (lv_at hl 0 rfl) ?_
      refine lv_iadd hx hb dX10_startsChain_198 ?_
      refine lv_topi (fun zq20_ e_zq20_ => ?_)
      have h_zq20_ : zq20_.toInt = 40 + pe.toInt := by rw [e_zq20_, iAdd (by have : (40 : Int32).toInt = 40 := rfl; have := iRg pe; omega) (by have : (40 : Int32).toInt = 40 := rfl; have := iRg pe; omega)]; rfl
      refine xild hC hK hH hc_al (iIn (by omega) (by omega)) dX10_startsChain_199 ?_
      refine lv_topi (fun xq21_ e_xq21_ => ?_)
      refine yist (x := xq21_) hC hK hH hc_al (iIn (by decide) (by decide)) dX10_startsChain_200 (fun Hq_ lcq_ Mq22_ hc_al hfr hH => ?_)
      have hc_al : Mq22_ al = some (.inl (kA 0, 7506, .inl (upd (upd (upd (upd (upd (upd (upd (upd f (Int32.toNatClampNeg 31) 0) (Int32.toNatClampNeg 32) pe) (Int32.toNatClampNeg 35) 0) (Int32.toNatClampNeg 36) (-1)) (Int32.toNatClampNeg 37) 0) (Int32.toNatClampNeg 33) pe) (Int32.toNatClampNeg zq13_) xq18_) (Int32.toNatClampNeg 34) xq21_))) := hc_al
      have hc_h : Mq22_ h = some (.inr (8, [.ref al, .ref mt, .ref ii, .int 0, .int (-1), .ref pa, .int 0, .int 0, .int 0, .int 0, .int 0, .long 0, .int 0, .ref li])) := (hfr h n_h_al).trans hc_h
      have hF : ∀ q, q ≠ al → Mq22_ q = M q := fun q h0 => (hfr q h0).trans (hF q h0)
      exact ret_v hC hr hlk hK hH (⟨_, fun j hj => ((pk_un (by have : Int32.toNatClampNeg 34 = 34 := rfl; omega)).trans ((pk_un (by have := iCl (x := zq13_) (by omega); omega)).trans ((pk_un (by have : Int32.toNatClampNeg 33 = 33 := rfl; omega)).trans ((pk_un (by have : Int32.toNatClampNeg 37 = 37 := rfl; omega)).trans ((pk_un (by have : Int32.toNatClampNeg 36 = 36 := rfl; omega)).trans ((pk_un (by have : Int32.toNatClampNeg 35 = 35 := rfl; omega)).trans ((pk_un (by have : Int32.toNatClampNeg 32 = 32 := rfl; omega)).trans ((pk_un (by have : Int32.toNatClampNeg 31 = 31 := rfl; omega)).trans rfl)))))))), hc_al, rfl, hF⟩) (Nat.le_of_ble_eq_true rfl) (Nat.le_of_ble_eq_true rfl) dX10_startsChain_201
    · skip
      have cq16_ : xq15_.toInt = 0 := cq16_
      refine lv_iconst (v := 1) hx hb dX10_startsChain_165 (by decide) ?_
      refine lv_goto (tgt := 180) hx hb dX10_startsChain_166 (by decide) ?_
      refine yist (x := 1) hC hK hH hc_al (iIn (by omega) (by omega)) dX10_startsChain_180 (fun Hq_ lcq_ Mq23_ hc_al hfr hH => ?_)
      have hc_al : Mq23_ al = some (.inl (kA 0, 7506, .inl (upd (upd (upd (upd (upd (upd (upd f (Int32.toNatClampNeg 31) 0) (Int32.toNatClampNeg 32) pe) (Int32.toNatClampNeg 35) 0) (Int32.toNatClampNeg 36) (-1)) (Int32.toNatClampNeg 37) 0) (Int32.toNatClampNeg 33) pe) (Int32.toNatClampNeg zq13_) 1))) := hc_al
      have hc_h : Mq23_ h = some (.inr (8, [.ref al, .ref mt, .ref ii, .int 0, .int (-1), .ref pa, .int 0, .int 0, .int 0, .int 0, .int 0, .long 0, .int 0, .ref li])) := (hfr h n_h_al).trans hc_h
      have hF : ∀ q, q ≠ al → Mq23_ q = M q := fun q h0 => (hfr q h0).trans (hF q h0)
      refine lv_aload_n hx hb dX10_startsChain_181 rfl (lv_at hl 2 rfl) ?_
      refine xg hC hK hH flX10_7 hc_h rfl dX10_startsChain_182 ?_
      refine lv_iload_n hx hb dX10_startsChain_185 rfl (lv_at hl 3 rfl) ?_
      refine lv_bipush (v := 14) hx hb dX10_startsChain_186 (by decide) ?_
      refine lv_iadd hx hb dX10_startsChain_188 ?_
      refine lv_cst (v := 34) (by decide) ?_
      refine lv_aload_n hx hb dX10_startsChain_189 rfl (lv_at hl 2 rfl) ?_
      refine xg hC hK hH flX10_7 hc_h rfl dX10_startsChain_190 ?_
      refine lv_iload_n hx hb dX10_startsChain_193 rfl (lv_at hl 3 rfl) ?_
      refine lv_bipush (v := 20) hx hb dX10_startsChain_194 (by decide) ?_
      refine lv_iadd hx hb dX10_startsChain_196 ?_
      refine lv_cst (v := 40) (by decide) ?_
      refine lv_iload_n hx hb dX10_startsChain_197 rfl (lv_at hl 0 rfl) ?_
      refine lv_iadd hx hb dX10_startsChain_198 ?_
      refine lv_topi (fun zq24_ e_zq24_ => ?_)
      have h_zq24_ : zq24_.toInt = 40 + pe.toInt := by rw [e_zq24_, iAdd (by have : (40 : Int32).toInt = 40 := rfl; have := iRg pe; omega) (by have : (40 : Int32).toInt = 40 := rfl; have := iRg pe; omega)]; rfl
      refine xild hC hK hH hc_al (iIn (by omega) (by omega)) dX10_startsChain_199 ?_
      refine lv_topi (fun xq25_ e_xq25_ => ?_)
      refine yist (x := xq25_) hC hK hH hc_al (iIn (by decide) (by decide)) dX10_startsChain_200 (fun Hq_ lcq_ Mq26_ hc_al hfr hH => ?_)
      have hc_al : Mq26_ al = some (.inl (kA 0, 7506, .inl (upd (upd (upd (upd (upd (upd (upd (upd f (Int32.toNatClampNeg 31) 0) (Int32.toNatClampNeg 32) pe) (Int32.toNatClampNeg 35) 0) (Int32.toNatClampNeg 36) (-1)) (Int32.toNatClampNeg 37) 0) (Int32.toNatClampNeg 33) pe) (Int32.toNatClampNeg zq13_) 1) (Int32.toNatClampNeg 34) xq25_))) := hc_al
      have hc_h : Mq26_ h = some (.inr (8, [.ref al, .ref mt, .ref ii, .int 0, .int (-1), .ref pa, .int 0, .int 0, .int 0, .int 0, .int 0, .long 0, .int 0, .ref li])) := (hfr h n_h_al).trans hc_h
      have hF : ∀ q, q ≠ al → Mq26_ q = M q := fun q h0 => (hfr q h0).trans (hF q h0)
      exact ret_v hC hr hlk hK hH (⟨_, fun j hj => ((pk_un (by have : Int32.toNatClampNeg 34 = 34 := rfl; omega)).trans ((pk_un (by have := iCl (x := zq13_) (by omega); omega)).trans ((pk_un (by have : Int32.toNatClampNeg 33 = 33 := rfl; omega)).trans ((pk_un (by have : Int32.toNatClampNeg 37 = 37 := rfl; omega)).trans ((pk_un (by have : Int32.toNatClampNeg 36 = 36 := rfl; omega)).trans ((pk_un (by have : Int32.toNatClampNeg 35 = 35 := rfl; omega)).trans ((pk_un (by have : Int32.toNatClampNeg 32 = 32 := rfl; omega)).trans ((pk_un (by have : Int32.toNatClampNeg 31 = 31 := rfl; omega)).trans rfl)))))))), hc_al, rfl, hF⟩) (Nat.le_of_ble_eq_true rfl) (Nat.le_of_ble_eq_true rfl) dX10_startsChain_201
  · skip
    have cq5_ : xq4_.toInt = 1 := cq5_
    refine lv_iconst (v := 1) hx hb dX10_startsChain_68 (by decide) ?_
    refine lv_goto (tgt := 73) hx hb dX10_startsChain_69 (by decide) ?_
    refine yist (x := 1) hC hK hH hc_al (iIn (by decide) (by decide)) dX10_startsChain_73 (fun Hq_ lcq_ Mq27_ hc_al hfr hH => ?_)
    have hc_al : Mq27_ al = some (.inl (kA 0, 7506, .inl (upd f (Int32.toNatClampNeg 31) 1))) := hc_al
    have hc_h : Mq27_ h = some (.inr (8, [.ref al, .ref mt, .ref ii, .int 0, .int (-1), .ref pa, .int 0, .int 0, .int 0, .int 0, .int 0, .long 0, .int 0, .ref li])) := (hfr h n_h_al).trans hc_h
    have hF : ∀ q, q ≠ al → Mq27_ q = M q := fun q h0 => (hfr q h0).trans (hF q h0)
    refine lv_aload_n hx hb dX10_startsChain_74 rfl (lv_at hl 2 rfl) ?_
    refine xg hC hK hH flX10_7 hc_h rfl dX10_startsChain_75 ?_
    refine lv_iload_n hx hb dX10_startsChain_78 rfl (lv_at hl 3 rfl) ?_
    refine lv_bipush (v := 12) hx hb dX10_startsChain_79 (by decide) ?_
    refine lv_iadd hx hb dX10_startsChain_81 ?_
    refine lv_cst (v := 32) (by decide) ?_
    refine lv_aload_n hx hb dX10_startsChain_82 rfl (lv_at hl 2 rfl) ?_
    refine xg hC hK hH flX10_7 hc_h rfl dX10_startsChain_83 ?_
    refine lv_iload_n hx hb dX10_startsChain_86 rfl (lv_at hl 3 rfl) ?_
    refine lv_bipush (v := 11) hx hb dX10_startsChain_87 (by decide) ?_
    refine lv_iadd hx hb dX10_startsChain_89 ?_
    refine lv_cst (v := 31) (by decide) ?_
    refine xild hC hK hH hc_al (iIn (by decide) (by decide)) dX10_startsChain_90 ?_
    refine lv_cst (v := 1) pk_us ?_
    refine lv_iconst (v := 1) hx hb dX10_startsChain_91 (by decide) ?_
    refine jic_ne (tgt := 99) hx hb dX10_startsChain_92 (by decide) (fun cq28_ => absurd cq28_ (by decide)) (fun cq28_ => ?_)
    refine lv_iconst (v := -1) hx hb dX10_startsChain_95 (by decide) ?_
    refine lv_goto (tgt := 100) hx hb dX10_startsChain_96 (by decide) ?_
    refine yist (x := -1) hC hK hH hc_al (iIn (by decide) (by decide)) dX10_startsChain_100 (fun Hq_ lcq_ Mq29_ hc_al hfr hH => ?_)
    have hc_al : Mq29_ al = some (.inl (kA 0, 7506, .inl (upd (upd f (Int32.toNatClampNeg 31) 1) (Int32.toNatClampNeg 32) (-1)))) := hc_al
    have hc_h : Mq29_ h = some (.inr (8, [.ref al, .ref mt, .ref ii, .int 0, .int (-1), .ref pa, .int 0, .int 0, .int 0, .int 0, .int 0, .long 0, .int 0, .ref li])) := (hfr h n_h_al).trans hc_h
    have hF : ∀ q, q ≠ al → Mq29_ q = M q := fun q h0 => (hfr q h0).trans (hF q h0)
    refine lv_aload_n hx hb dX10_startsChain_101 rfl (lv_at hl 2 rfl) ?_
    refine xg hC hK hH flX10_7 hc_h rfl dX10_startsChain_102 ?_
    refine lv_iload_n hx hb dX10_startsChain_105 rfl (lv_at hl 3 rfl) ?_
    refine lv_bipush (v := 15) hx hb dX10_startsChain_106 (by decide) ?_
    refine lv_iadd hx hb dX10_startsChain_108 ?_
    refine lv_cst (v := 35) (by decide) ?_
    refine lv_iconst (v := 0) hx hb dX10_startsChain_109 (by decide) ?_
    refine yist (x := 0) hC hK hH hc_al (iIn (by decide) (by decide)) dX10_startsChain_110 (fun Hq_ lcq_ Mq30_ hc_al hfr hH => ?_)
    have hc_al : Mq30_ al = some (.inl (kA 0, 7506, .inl (upd (upd (upd f (Int32.toNatClampNeg 31) 1) (Int32.toNatClampNeg 32) (-1)) (Int32.toNatClampNeg 35) 0))) := hc_al
    have hc_h : Mq30_ h = some (.inr (8, [.ref al, .ref mt, .ref ii, .int 0, .int (-1), .ref pa, .int 0, .int 0, .int 0, .int 0, .int 0, .long 0, .int 0, .ref li])) := (hfr h n_h_al).trans hc_h
    have hF : ∀ q, q ≠ al → Mq30_ q = M q := fun q h0 => (hfr q h0).trans (hF q h0)
    refine lv_aload_n hx hb dX10_startsChain_111 rfl (lv_at hl 2 rfl) ?_
    refine xg hC hK hH flX10_7 hc_h rfl dX10_startsChain_112 ?_
    refine lv_iload_n hx hb dX10_startsChain_115 rfl (lv_at hl 3 rfl) ?_
    refine lv_bipush (v := 16) hx hb dX10_startsChain_116 (by decide) ?_
    refine lv_iadd hx hb dX10_startsChain_118 ?_
    refine lv_cst (v := 36) (by decide) ?_
    refine lv_iconst (v := -1) hx hb dX10_startsChain_119 (by decide) ?_
    refine yist (x := -1) hC hK hH hc_al (iIn (by decide) (by decide)) dX10_startsChain_120 (fun Hq_ lcq_ Mq31_ hc_al hfr hH => ?_)
    have hc_al : Mq31_ al = some (.inl (kA 0, 7506, .inl (upd (upd (upd (upd f (Int32.toNatClampNeg 31) 1) (Int32.toNatClampNeg 32) (-1)) (Int32.toNatClampNeg 35) 0) (Int32.toNatClampNeg 36) (-1)))) := hc_al
    have hc_h : Mq31_ h = some (.inr (8, [.ref al, .ref mt, .ref ii, .int 0, .int (-1), .ref pa, .int 0, .int 0, .int 0, .int 0, .int 0, .long 0, .int 0, .ref li])) := (hfr h n_h_al).trans hc_h
    have hF : ∀ q, q ≠ al → Mq31_ q = M q := fun q h0 => (hfr q h0).trans (hF q h0)
    refine lv_aload_n hx hb dX10_startsChain_121 rfl (lv_at hl 2 rfl) ?_
    refine xg hC hK hH flX10_7 hc_h rfl dX10_startsChain_122 ?_
    refine lv_iload_n hx hb dX10_startsChain_125 rfl (lv_at hl 3 rfl) ?_
    refine lv_bipush (v := 17) hx hb dX10_startsChain_126 (by decide) ?_
    refine lv_iadd hx hb dX10_startsChain_128 ?_
    refine lv_cst (v := 37) (by decide) ?_
    refine lv_iconst (v := 0) hx hb dX10_startsChain_129 (by decide) ?_
    refine yist (x := 0) hC hK hH hc_al (iIn (by decide) (by decide)) dX10_startsChain_130 (fun Hq_ lcq_ Mq32_ hc_al hfr hH => ?_)
    have hc_al : Mq32_ al = some (.inl (kA 0, 7506, .inl (upd (upd (upd (upd (upd f (Int32.toNatClampNeg 31) 1) (Int32.toNatClampNeg 32) (-1)) (Int32.toNatClampNeg 35) 0) (Int32.toNatClampNeg 36) (-1)) (Int32.toNatClampNeg 37) 0))) := hc_al
    have hc_h : Mq32_ h = some (.inr (8, [.ref al, .ref mt, .ref ii, .int 0, .int (-1), .ref pa, .int 0, .int 0, .int 0, .int 0, .int 0, .long 0, .int 0, .ref li])) := (hfr h n_h_al).trans hc_h
    have hF : ∀ q, q ≠ al → Mq32_ q = M q := fun q h0 => (hfr q h0).trans (hF q h0)
    refine lv_aload_n hx hb dX10_startsChain_131 rfl (lv_at hl 2 rfl) ?_
    refine xg hC hK hH flX10_7 hc_h rfl dX10_startsChain_132 ?_
    refine lv_iload_n hx hb dX10_startsChain_135 rfl (lv_at hl 3 rfl) ?_
    refine lv_bipush (v := 13) hx hb dX10_startsChain_136 (by decide) ?_
    refine lv_iadd hx hb dX10_startsChain_138 ?_
    refine lv_cst (v := 33) (by decide) ?_
    refine lv_iload_n hx hb dX10_startsChain_139 rfl (lv_at hl 0 rfl) ?_
    refine yist (x := pe) hC hK hH hc_al (iIn (by decide) (by decide)) dX10_startsChain_140 (fun Hq_ lcq_ Mq33_ hc_al hfr hH => ?_)
    have hc_al : Mq33_ al = some (.inl (kA 0, 7506, .inl (upd (upd (upd (upd (upd (upd f (Int32.toNatClampNeg 31) 1) (Int32.toNatClampNeg 32) (-1)) (Int32.toNatClampNeg 35) 0) (Int32.toNatClampNeg 36) (-1)) (Int32.toNatClampNeg 37) 0) (Int32.toNatClampNeg 33) pe))) := hc_al
    have hc_h : Mq33_ h = some (.inr (8, [.ref al, .ref mt, .ref ii, .int 0, .int (-1), .ref pa, .int 0, .int 0, .int 0, .int 0, .int 0, .long 0, .int 0, .ref li])) := (hfr h n_h_al).trans hc_h
    have hF : ∀ q, q ≠ al → Mq33_ q = M q := fun q h0 => (hfr q h0).trans (hF q h0)
    refine lv_aload_n hx hb dX10_startsChain_141 rfl (lv_at hl 2 rfl) ?_
    refine xg hC hK hH flX10_7 hc_h rfl dX10_startsChain_142 ?_
    refine lv_iload_n hx hb dX10_startsChain_145 rfl (lv_at hl 3 rfl) ?_
    refine lv_bipush (v := 20) hx hb dX10_startsChain_146 (by decide) ?_
    refine lv_iadd hx hb dX10_startsChain_148 ?_
    refine lv_cst (v := 40) (by decide) ?_
    refine lv_iload_n hx hb dX10_startsChain_149 rfl (lv_at hl 0 rfl) ?_
    refine lv_iadd hx hb dX10_startsChain_150 ?_
    refine lv_topi (fun zq34_ e_zq34_ => ?_)
    have h_zq34_ : zq34_.toInt = 40 + pe.toInt := by rw [e_zq34_, iAdd (by have : (40 : Int32).toInt = 40 := rfl; have := iRg pe; omega) (by have : (40 : Int32).toInt = 40 := rfl; have := iRg pe; omega)]; rfl
    refine lv_aload_n hx hb dX10_startsChain_151 rfl (lv_at hl 2 rfl) ?_
    refine xg hC hK hH flX10_7 hc_h rfl dX10_startsChain_152 ?_
    refine lv_iload_n hx hb dX10_startsChain_155 rfl (lv_at hl 3 rfl) ?_
    refine lv_bipush (v := 20) hx hb dX10_startsChain_156 (by decide) ?_
    refine lv_iadd hx hb dX10_startsChain_158 ?_
    refine lv_cst (v := 40) (by decide) ?_
    refine lv_iload_n hx hb dX10_startsChain_159 rfl (lv_at hl 0 rfl) ?_
    refine lv_iadd hx hb dX10_startsChain_160 ?_
    refine lv_topi (fun zq35_ e_zq35_ => ?_)
    have h_zq35_ : zq35_.toInt = 40 + pe.toInt := by rw [e_zq35_, iAdd (by have : (40 : Int32).toInt = 40 := rfl; have := iRg pe; omega) (by have : (40 : Int32).toInt = 40 := rfl; have := iRg pe; omega)]; rfl
    refine xild hC hK hH hc_al (iIn (by omega) (by omega)) dX10_startsChain_161 ?_
    refine lv_topi (fun xq36_ e_xq36_ => ?_)
    refine jif_ne (tgt := 169) hx hb dX10_startsChain_162 (by decide) (fun cq37_ => ?_) (fun cq37_ => ?_)
    · skip
      have cq37_ : xq36_.toInt ≠ 0 := cq37_
      refine lv_aload_n hx hb dX10_startsChain_169 rfl (lv_at hl 2 rfl) ?_
      refine xg hC hK hH flX10_7 hc_h rfl dX10_startsChain_170 ?_
      refine lv_iload_n hx hb dX10_startsChain_173 rfl (lv_at hl 3 rfl) ?_
      refine lv_bipush (v := 20) hx hb dX10_startsChain_174 (by decide) ?_
      refine lv_iadd hx hb dX10_startsChain_176 ?_
      refine lv_cst (v := 40) (by decide) ?_
      refine lv_iload_n hx hb dX10_startsChain_177 rfl (lv_at hl 0 rfl) ?_
      refine lv_iadd hx hb dX10_startsChain_178 ?_
      refine lv_topi (fun zq38_ e_zq38_ => ?_)
      have h_zq38_ : zq38_.toInt = 40 + pe.toInt := by rw [e_zq38_, iAdd (by have : (40 : Int32).toInt = 40 := rfl; have := iRg pe; omega) (by have : (40 : Int32).toInt = 40 := rfl; have := iRg pe; omega)]; rfl
      refine xild hC hK hH hc_al (iIn (by omega) (by omega)) dX10_startsChain_179 ?_
      refine lv_topi (fun xq39_ e_xq39_ => ?_)
      refine yist (x := xq39_) hC hK hH hc_al (iIn (by omega) (by omega)) dX10_startsChain_180 (fun Hq_ lcq_ Mq40_ hc_al hfr hH => ?_)
      have hc_al : Mq40_ al = some (.inl (kA 0, 7506, .inl (upd (upd (upd (upd (upd (upd (upd f (Int32.toNatClampNeg 31) 1) (Int32.toNatClampNeg 32) (-1)) (Int32.toNatClampNeg 35) 0) (Int32.toNatClampNeg 36) (-1)) (Int32.toNatClampNeg 37) 0) (Int32.toNatClampNeg 33) pe) (Int32.toNatClampNeg zq34_) xq39_))) := hc_al
      have hc_h : Mq40_ h = some (.inr (8, [.ref al, .ref mt, .ref ii, .int 0, .int (-1), .ref pa, .int 0, .int 0, .int 0, .int 0, .int 0, .long 0, .int 0, .ref li])) := (hfr h n_h_al).trans hc_h
      have hF : ∀ q, q ≠ al → Mq40_ q = M q := fun q h0 => (hfr q h0).trans (hF q h0)
      refine lv_aload_n hx hb dX10_startsChain_181 rfl (lv_at hl 2 rfl) ?_
      refine xg hC hK hH flX10_7 hc_h rfl dX10_startsChain_182 ?_
      refine lv_iload_n hx hb dX10_startsChain_185 rfl (lv_at hl 3 rfl) ?_
      refine lv_bipush (v := 14) hx hb dX10_startsChain_186 (by decide) ?_
      refine lv_iadd hx hb dX10_startsChain_188 ?_
      refine lv_cst (v := 34) (by decide) ?_
      refine lv_aload_n hx hb dX10_startsChain_189 rfl (lv_at hl 2 rfl) ?_
      refine xg hC hK hH flX10_7 hc_h rfl dX10_startsChain_190 ?_
      refine lv_iload_n hx hb dX10_startsChain_193 rfl (lv_at hl 3 rfl) ?_
      refine lv_bipush (v := 20) hx hb dX10_startsChain_194 (by decide) ?_
      refine lv_iadd hx hb dX10_startsChain_196 ?_
      refine lv_cst (v := 40) (by decide) ?_
      refine lv_iload_n hx hb dX10_startsChain_197 rfl (lv_at hl 0 rfl) ?_
      refine lv_iadd hx hb dX10_startsChain_198 ?_
      refine lv_topi (fun zq41_ e_zq41_ => ?_)
      have h_zq41_ : zq41_.toInt = 40 + pe.toInt := by rw [e_zq41_, iAdd (by have : (40 : Int32).toInt = 40 := rfl; have := iRg pe; omega) (by have : (40 : Int32).toInt = 40 := rfl; have := iRg pe; omega)]; rfl
      refine xild hC hK hH hc_al (iIn (by omega) (by omega)) dX10_startsChain_199 ?_
      refine lv_topi (fun xq42_ e_xq42_ => ?_)
      refine yist (x := xq42_) hC hK hH hc_al (iIn (by decide) (by decide)) dX10_startsChain_200 (fun Hq_ lcq_ Mq43_ hc_al hfr hH => ?_)
      have hc_al : Mq43_ al = some (.inl (kA 0, 7506, .inl (upd (upd (upd (upd (upd (upd (upd (upd f (Int32.toNatClampNeg 31) 1) (Int32.toNatClampNeg 32) (-1)) (Int32.toNatClampNeg 35) 0) (Int32.toNatClampNeg 36) (-1)) (Int32.toNatClampNeg 37) 0) (Int32.toNatClampNeg 33) pe) (Int32.toNatClampNeg zq34_) xq39_) (Int32.toNatClampNeg 34) xq42_))) := hc_al
      have hc_h : Mq43_ h = some (.inr (8, [.ref al, .ref mt, .ref ii, .int 0, .int (-1), .ref pa, .int 0, .int 0, .int 0, .int 0, .int 0, .long 0, .int 0, .ref li])) := (hfr h n_h_al).trans hc_h
      have hF : ∀ q, q ≠ al → Mq43_ q = M q := fun q h0 => (hfr q h0).trans (hF q h0)
      exact ret_v hC hr hlk hK hH (⟨_, fun j hj => ((pk_un (by have : Int32.toNatClampNeg 34 = 34 := rfl; omega)).trans ((pk_un (by have := iCl (x := zq34_) (by omega); omega)).trans ((pk_un (by have : Int32.toNatClampNeg 33 = 33 := rfl; omega)).trans ((pk_un (by have : Int32.toNatClampNeg 37 = 37 := rfl; omega)).trans ((pk_un (by have : Int32.toNatClampNeg 36 = 36 := rfl; omega)).trans ((pk_un (by have : Int32.toNatClampNeg 35 = 35 := rfl; omega)).trans ((pk_un (by have : Int32.toNatClampNeg 32 = 32 := rfl; omega)).trans ((pk_un (by have : Int32.toNatClampNeg 31 = 31 := rfl; omega)).trans rfl)))))))), hc_al, rfl, hF⟩) (Nat.le_of_ble_eq_true rfl) (Nat.le_of_ble_eq_true rfl) dX10_startsChain_201
    · skip
      have cq37_ : xq36_.toInt = 0 := cq37_
      refine lv_iconst (v := 1) hx hb dX10_startsChain_165 (by decide) ?_
      refine lv_goto (tgt := 180) hx hb dX10_startsChain_166 (by decide) ?_
      refine yist (x := 1) hC hK hH hc_al (iIn (by omega) (by omega)) dX10_startsChain_180 (fun Hq_ lcq_ Mq44_ hc_al hfr hH => ?_)
      have hc_al : Mq44_ al = some (.inl (kA 0, 7506, .inl (upd (upd (upd (upd (upd (upd (upd f (Int32.toNatClampNeg 31) 1) (Int32.toNatClampNeg 32) (-1)) (Int32.toNatClampNeg 35) 0) (Int32.toNatClampNeg 36) (-1)) (Int32.toNatClampNeg 37) 0) (Int32.toNatClampNeg 33) pe) (Int32.toNatClampNeg zq34_) 1))) := hc_al
      have hc_h : Mq44_ h = some (.inr (8, [.ref al, .ref mt, .ref ii, .int 0, .int (-1), .ref pa, .int 0, .int 0, .int 0, .int 0, .int 0, .long 0, .int 0, .ref li])) := (hfr h n_h_al).trans hc_h
      have hF : ∀ q, q ≠ al → Mq44_ q = M q := fun q h0 => (hfr q h0).trans (hF q h0)
      refine lv_aload_n hx hb dX10_startsChain_181 rfl (lv_at hl 2 rfl) ?_
      refine xg hC hK hH flX10_7 hc_h rfl dX10_startsChain_182 ?_
      refine lv_iload_n hx hb dX10_startsChain_185 rfl (lv_at hl 3 rfl) ?_
      refine lv_bipush (v := 14) hx hb dX10_startsChain_186 (by decide) ?_
      refine lv_iadd hx hb dX10_startsChain_188 ?_
      refine lv_cst (v := 34) (by decide) ?_
      refine lv_aload_n hx hb dX10_startsChain_189 rfl (lv_at hl 2 rfl) ?_
      refine xg hC hK hH flX10_7 hc_h rfl dX10_startsChain_190 ?_
      refine lv_iload_n hx hb dX10_startsChain_193 rfl (lv_at hl 3 rfl) ?_
      refine lv_bipush (v := 20) hx hb dX10_startsChain_194 (by decide) ?_
      refine lv_iadd hx hb dX10_startsChain_196 ?_
      refine lv_cst (v := 40) (by decide) ?_
      refine lv_iload_n hx hb dX10_startsChain_197 rfl (lv_at hl 0 rfl) ?_
      refine lv_iadd hx hb dX10_startsChain_198 ?_
      refine lv_topi (fun zq45_ e_zq45_ => ?_)
      have h_zq45_ : zq45_.toInt = 40 + pe.toInt := by rw [e_zq45_, iAdd (by have : (40 : Int32).toInt = 40 := rfl; have := iRg pe; omega) (by have : (40 : Int32).toInt = 40 := rfl; have := iRg pe; omega)]; rfl
      refine xild hC hK hH hc_al (iIn (by omega) (by omega)) dX10_startsChain_199 ?_
      refine lv_topi (fun xq46_ e_xq46_ => ?_)
      refine yist (x := xq46_) hC hK hH hc_al (iIn (by decide) (by decide)) dX10_startsChain_200 (fun Hq_ lcq_ Mq47_ hc_al hfr hH => ?_)
      have hc_al : Mq47_ al = some (.inl (kA 0, 7506, .inl (upd (upd (upd (upd (upd (upd (upd (upd f (Int32.toNatClampNeg 31) 1) (Int32.toNatClampNeg 32) (-1)) (Int32.toNatClampNeg 35) 0) (Int32.toNatClampNeg 36) (-1)) (Int32.toNatClampNeg 37) 0) (Int32.toNatClampNeg 33) pe) (Int32.toNatClampNeg zq34_) 1) (Int32.toNatClampNeg 34) xq46_))) := hc_al
      have hc_h : Mq47_ h = some (.inr (8, [.ref al, .ref mt, .ref ii, .int 0, .int (-1), .ref pa, .int 0, .int 0, .int 0, .int 0, .int 0, .long 0, .int 0, .ref li])) := (hfr h n_h_al).trans hc_h
      have hF : ∀ q, q ≠ al → Mq47_ q = M q := fun q h0 => (hfr q h0).trans (hF q h0)
      exact ret_v hC hr hlk hK hH (⟨_, fun j hj => ((pk_un (by have : Int32.toNatClampNeg 34 = 34 := rfl; omega)).trans ((pk_un (by have := iCl (x := zq34_) (by omega); omega)).trans ((pk_un (by have : Int32.toNatClampNeg 33 = 33 := rfl; omega)).trans ((pk_un (by have : Int32.toNatClampNeg 37 = 37 := rfl; omega)).trans ((pk_un (by have : Int32.toNatClampNeg 36 = 36 := rfl; omega)).trans ((pk_un (by have : Int32.toNatClampNeg 35 = 35 := rfl; omega)).trans ((pk_un (by have : Int32.toNatClampNeg 32 = 32 := rfl; omega)).trans ((pk_un (by have : Int32.toNatClampNeg 31 = 31 := rfl; omega)).trans rfl)))))))), hc_al, rfl, hF⟩) (Nat.le_of_ble_eq_true rfl) (Nat.le_of_ble_eq_true rfl) dX10_startsChain_201
