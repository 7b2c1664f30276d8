def LI (z : zD) (kA : Nat → ClassId) (M : mM) (T : mT) (ro mo : Nat) : Prop := ∃ (w im rd rc cu cs bs tp nb by_ vi rb rs rp al mt ii pa li : Nat) (td gd bc py rf lt tl fp no wi le ki pl be vr pm ta fpm sm nx tk plm ln wr : Int32) (va : Int64) (g gi : Nat → Option Nat) (ti fi F : Nat → Int32), (M ro = some (.inr (7, [.ref w, .ref im, .ref rd, .ref rc, .ref cu]))) ∧ (M w = some (.inr (6, [.int td, .int gd, .int bc, .int py, .int rf, .int lt, .int tl, .int fp, .ref cs, .ref bs, .ref tp]))) ∧ (M bs = some (.inl (kA 5, 4, .inr (.inr (.inr (.inr g)))))) ∧ (M im = some (.inl (kA 6, 3, .inr (.inr (.inr (.inr gi)))))) ∧ (M rd = some (.inr (3, [.ref nb, .ref (zv z vi), .int no, .int wi, .ref by_, .int le, .int ki, .int pl, .int be, .int vr]))) ∧ (M rc = some (.inr (4, [.ref rb, .ref rs, .ref rp, .int pm]))) ∧ (M mo = some (.inr (8, [.ref al, .ref mt, .ref ii, .int ta, .int fpm, .ref pa, .int sm, .int nx, .int tk, .int plm, .int ln, .long va, .int wr, .ref li]))) ∧ (M al = some (.inl (kA 0, 7506, .inl F))) ∧ (M ii = some (.inl (kA 2, 3, .inl fi))) ∧ (T ro = none) ∧ (T w = none) ∧ (T im = none) ∧ (T rd = none) ∧ (T rc = none) ∧ (T mo = none) ∧ (T al = none) ∧ (T ii = none) ∧ (T cu = some 9) ∧ (T cs = some 3) ∧ (T bs = some 6) ∧ (T tp = some 7) ∧ (T nb = some 12) ∧ (T rb = some 2) ∧ (T rs = some 3) ∧ (T rp = some 5) ∧ (T mt = some 11) ∧ (T pa = some 13) ∧ (T li = some 14) ∧ (0 ≤ td.toInt ∧ td.toInt ≤ 999) ∧ (0 ≤ bc.toInt ∧ bc.toInt ≤ 4) ∧ (0 ≤ tl.toInt ∧ tl.toInt ≤ 600) ∧ (vi < 19) ∧ (0 ≤ no.toInt ∧ no.toInt ≤ 1) ∧ (0 ≤ wi.toInt ∧ wi.toInt ≤ 1) ∧ (0 ≤ pm.toInt ∧ pm.toInt ≤ 14) ∧ (0 ≤ ta.toInt ∧ ta.toInt ≤ 600) ∧ (ta.toInt = tl.toInt) ∧ (∀ j, j < 4 → ∃ q, g j = some q ∧ T q = some 2) ∧ (∀ j, 3 ≤ j → gi j = none) ∧ (ImsOK kA M T w gi ti) ∧ (Rng F) ∧ (RelI gi ti fi F)
set_option maxHeartbeats 4000000 in
set_option maxRecDepth 100000 in
theorem law_end {p : Program} {e : Env} {s : State} {m : MethodId} {below : List Frame} {meth : Method} {c : Code} {l : Launch} {b L : Nat} {xs : Nat → Int32} (C0 : lw_At p s m meth c b L xs) {A : Nat → Prop} (hAq : ∀ q, A q → s.heap.size ≤ q) {Hq_ : Heap} {lcq_ : List Loc} {ls : Array Slot} {cells slots : Nat} (hS : va_S A s.heap Hq_ lcq_) (hk1 : cells ≤ 600000) (hk2 : slots ≤ 7302250) : W p l e room_1 s m #[Value.ref b] below meth c Hq_ lcq_ cells slots (lw_Z below #[Value.ref b] s) (F0 m 1376 ls []) := by
  obtain ⟨hx, hb, hr, hml, hown, hts, hX, hbl, hlocks, hgv⟩ := C0
  refine lv_iconst (v := 1) hx hb dL_law_1376 (by decide) ?_
  refine va_forget (fun q hq => hAq _ (hS.2.2 q hq)) ?_
  refine W.widen hk1 hk2 ?_
  exact lw_ret hx hb hr hlocks dL_law_1377
set_option maxHeartbeats 4000000 in
theorem ap9 {z : zD} {kA : Nat → ClassId} {M : mM} {ro mo : Nat} {w im rd rc cu cs bs tp nb by_ vi rb rs rp al mt ii pa li : Nat} {td gd bc py rf lt tl fp no wi le ki pl be vr pm ta fpm sm nx tk plm ln wr : Int32} {va : Int64} {g gi : Nat → Option Nat} {fi F : Nat → Int32} (hc_ro : M ro = some (.inr (7, [.ref w, .ref im, .ref rd, .ref rc, .ref cu]))) (hc_w : M w = some (.inr (6, [.int td, .int gd, .int bc, .int py, .int rf, .int lt, .int tl, .int fp, .ref cs, .ref bs, .ref tp]))) (hc_bs : M bs = some (.inl (kA 5, 4, .inr (.inr (.inr (.inr g)))))) (hc_im : M im = some (.inl (kA 6, 3, .inr (.inr (.inr (.inr gi)))))) (hc_rd : M rd = some (.inr (3, [.ref nb, .ref (zv z vi), .int no, .int wi, .ref by_, .int le, .int ki, .int pl, .int be, .int vr]))) (hc_rc : M rc = some (.inr (4, [.ref rb, .ref rs, .ref rp, .int pm]))) (hc_mo : M mo = some (.inr (8, [.ref al, .ref mt, .ref ii, .int ta, .int fpm, .ref pa, .int sm, .int nx, .int tk, .int plm, .int ln, .long va, .int wr, .ref li]))) (hc_al : M al = some (.inl (kA 0, 7506, .inl F))) (hc_ii : M ii = some (.inl (kA 2, 3, .inl fi))) : ro ≠ w ∧ w ≠ ro ∧ ro ≠ bs ∧ bs ≠ ro ∧ ro ≠ im ∧ im ≠ ro ∧ ro ≠ rd ∧ rd ≠ ro ∧ ro ≠ rc ∧ rc ≠ ro ∧ ro ≠ mo ∧ mo ≠ ro ∧ ro ≠ al ∧ al ≠ ro ∧ ro ≠ ii ∧ ii ≠ ro ∧ w ≠ bs ∧ bs ≠ w ∧ w ≠ im ∧ im ≠ w ∧ w ≠ rd ∧ rd ≠ w ∧ w ≠ rc ∧ rc ≠ w ∧ w ≠ mo ∧ mo ≠ w ∧ w ≠ al ∧ al ≠ w ∧ w ≠ ii ∧ ii ≠ w ∧ bs ≠ im ∧ im ≠ bs ∧ bs ≠ rd ∧ rd ≠ bs ∧ bs ≠ rc ∧ rc ≠ bs ∧ bs ≠ mo ∧ mo ≠ bs ∧ bs ≠ al ∧ al ≠ bs ∧ bs ≠ ii ∧ ii ≠ bs ∧ im ≠ rd ∧ rd ≠ im ∧ im ≠ rc ∧ rc ≠ im ∧ im ≠ mo ∧ mo ≠ im ∧ im ≠ al ∧ al ≠ im ∧ im ≠ ii ∧ ii ≠ im ∧ rd ≠ rc ∧ rc ≠ rd ∧ rd ≠ mo ∧ mo ≠ rd ∧ rd ≠ al ∧ al ≠ rd ∧ rd ≠ ii ∧ ii ≠ rd ∧ rc ≠ mo ∧ mo ≠ rc ∧ rc ≠ al ∧ al ≠ rc ∧ rc ≠ ii ∧ ii ≠ rc ∧ mo ≠ al ∧ al ≠ mo ∧ mo ≠ ii ∧ ii ≠ mo ∧ al ≠ ii ∧ ii ≠ al := by
  have n_ro_w : ro ≠ w := neM hc_ro hc_w (by simp)
  have n_ro_bs : ro ≠ bs := neM hc_ro hc_bs (by simp)
  have n_ro_im : ro ≠ im := neM hc_ro hc_im (by simp)
  have n_ro_rd : ro ≠ rd := neM hc_ro hc_rd (by simp)
  have n_ro_rc : ro ≠ rc := neM hc_ro hc_rc (by simp)
  have n_ro_mo : ro ≠ mo := neM hc_ro hc_mo (by simp)
  have n_ro_al : ro ≠ al := neM hc_ro hc_al (by simp)
  have n_ro_ii : ro ≠ ii := neM hc_ro hc_ii (by simp)
  have n_w_bs : w ≠ bs := neM hc_w hc_bs (by simp)
  have n_w_im : w ≠ im := neM hc_w hc_im (by simp)
  have n_w_rd : w ≠ rd := neM hc_w hc_rd (by simp)
  have n_w_rc : w ≠ rc := neM hc_w hc_rc (by simp)
  have n_w_mo : w ≠ mo := neM hc_w hc_mo (by simp)
  have n_w_al : w ≠ al := neM hc_w hc_al (by simp)
  have n_w_ii : w ≠ ii := neM hc_w hc_ii (by simp)
  have n_bs_im : bs ≠ im := neM hc_bs hc_im (by simp)
  have n_bs_rd : bs ≠ rd := neM hc_bs hc_rd (by simp)
  have n_bs_rc : bs ≠ rc := neM hc_bs hc_rc (by simp)
  have n_bs_mo : bs ≠ mo := neM hc_bs hc_mo (by simp)
  have n_bs_al : bs ≠ al := neM hc_bs hc_al (by simp)
  have n_bs_ii : bs ≠ ii := neM hc_bs hc_ii (by simp)
  have n_im_rd : im ≠ rd := neM hc_im hc_rd (by simp)
  have n_im_rc : im ≠ rc := neM hc_im hc_rc (by simp)
  have n_im_mo : im ≠ mo := neM hc_im hc_mo (by simp)
  have n_im_al : im ≠ al := neM hc_im hc_al (by simp)
  have n_im_ii : im ≠ ii := neM hc_im hc_ii (by simp)
  have n_rd_rc : rd ≠ rc := neM hc_rd hc_rc (by simp)
  have n_rd_mo : rd ≠ mo := neM hc_rd hc_mo (by simp)
  have n_rd_al : rd ≠ al := neM hc_rd hc_al (by simp)
  have n_rd_ii : rd ≠ ii := neM hc_rd hc_ii (by simp)
  have n_rc_mo : rc ≠ mo := neM hc_rc hc_mo (by simp)
  have n_rc_al : rc ≠ al := neM hc_rc hc_al (by simp)
  have n_rc_ii : rc ≠ ii := neM hc_rc hc_ii (by simp)
  have n_mo_al : mo ≠ al := neM hc_mo hc_al (by simp)
  have n_mo_ii : mo ≠ ii := neM hc_mo hc_ii (by simp)
  have n_al_ii : al ≠ ii := neM hc_al hc_ii (by simp)
  exact ⟨n_ro_w, Ne.symm n_ro_w, n_ro_bs, Ne.symm n_ro_bs, n_ro_im, Ne.symm n_ro_im, n_ro_rd, Ne.symm n_ro_rd, n_ro_rc, Ne.symm n_ro_rc, n_ro_mo, Ne.symm n_ro_mo, n_ro_al, Ne.symm n_ro_al, n_ro_ii, Ne.symm n_ro_ii, n_w_bs, Ne.symm n_w_bs, n_w_im, Ne.symm n_w_im, n_w_rd, Ne.symm n_w_rd, n_w_rc, Ne.symm n_w_rc, n_w_mo, Ne.symm n_w_mo, n_w_al, Ne.symm n_w_al, n_w_ii, Ne.symm n_w_ii, n_bs_im, Ne.symm n_bs_im, n_bs_rd, Ne.symm n_bs_rd, n_bs_rc, Ne.symm n_bs_rc, n_bs_mo, Ne.symm n_bs_mo, n_bs_al, Ne.symm n_bs_al, n_bs_ii, Ne.symm n_bs_ii, n_im_rd, Ne.symm n_im_rd, n_im_rc, Ne.symm n_im_rc, n_im_mo, Ne.symm n_im_mo, n_im_al, Ne.symm n_im_al, n_im_ii, Ne.symm n_im_ii, n_rd_rc, Ne.symm n_rd_rc, n_rd_mo, Ne.symm n_rd_mo, n_rd_al, Ne.symm n_rd_al, n_rd_ii, Ne.symm n_rd_ii, n_rc_mo, Ne.symm n_rc_mo, n_rc_al, Ne.symm n_rc_al, n_rc_ii, Ne.symm n_rc_ii, n_mo_al, Ne.symm n_mo_al, n_mo_ii, Ne.symm n_mo_ii, n_al_ii, Ne.symm n_al_ii⟩
