set_option maxHeartbeats 4000000 in
set_option maxRecDepth 100000 in
theorem law_case_0 {p : Program} {e : Env} {s : State} {m : MethodId} {below : List Frame} {meth : Method} {c : Code} {l : Launch} {b : Nat} {xs : Nat → Int32} (C0 : lw_At p s m meth c b 6 xs) {D : va_G} {kA : Nat → ClassId} (hK : mK D kA s) {M : mM} {T : mT} {A : Nat → Prop} (hAq : ∀ q, A q → s.heap.size ≤ q) {Hq_ : Heap} {lcq_ : List Loc} {ls : Array Slot} {ro w im rd rc cu cs bs tp nb by_ vb mo al mt ii pa li : Nat} {F : Nat → Int32} (hc_ro : M ro = some (.inr (7, [.ref w, .ref im, .ref rd, .ref rc, .ref cu]))) (hc_w : M w = some (.inr (6, [.int 0, .int 2, .int 0, .int 0, .int 0, .int 0, .int 0, .int (-1), .ref cs, .ref bs, .ref tp]))) (hc_cs : M cs = some (.inl (kA 0, 8, .inl (c100 (fun _ => 0))))) (hc_im : M im = some (.inl (kA 6, 3, .inr (.inr (.inr (.inr (fun _ => none))))))) (hc_rd : M rd = some (.inr (3, [.ref nb, .ref vb, .int 0, .int 0, .ref by_, .int 0, .int 0, .int 0, .int 0, .int 0]))) (hc_mo : M mo = some (.inr (8, [.ref al, .ref mt, .ref ii, .int 0, .int (-1), .ref pa, .int 0, .int 0, .int 0, .int 0, .int 0, .long 0, .int 0, .ref li]))) (hc_al : M al = some (.inl (kA 0, 7506, .inl F))) (hc_ii : M ii = some (.inl (kA 2, 3, .inl (fun _ => 0)))) (ht_bs : T bs = some 6) (ht_tp : T tp = some 7) (ht_mt : T mt = some 11) (hFi : ∀ j, j < 1140 → F j = mIni j) (hH : mS D kA M T A s.heap Hq_ lcq_) (hl : lv_has ls 4 [(3, .int 0), (2, .ref mo), (1, .ref ro), (0, .ref b)]) : W p l e room_1 s m #[Value.ref b] below meth c Hq_ lcq_ 156 11688 (lw_Z below #[Value.ref b] s) (F0 m 184 ls []) := by
  obtain ⟨hx, hb, hr, hml, hown, hts, hX, hbl, hlocks, hgv⟩ := id C0
  have hC : CallFix p m c cL_law 4 s #[Value.ref b] TB RL := ⟨hx, hb, hml, hown, fun w h => hts w (TB_in h)⟩
  have hbA : ¬ A b := fun h => absurd (hAq b h) (Nat.not_le.mpr hbl)
  have n_ro_w : ro ≠ w := neM hc_ro hc_w (by simp)
  have n_ro_cs : ro ≠ cs := neM hc_ro hc_cs (by simp)
  have n_ro_im : ro ≠ im := neM hc_ro hc_im (by simp)
  have n_ro_rd : ro ≠ rd := neM hc_ro hc_rd (by simp)
  have n_ro_mo : ro ≠ mo := neM hc_ro hc_mo (by simp)
  have n_ro_al : ro ≠ al := neM hc_ro hc_al (by simp)
  have n_ro_ii : ro ≠ ii := neM hc_ro hc_ii (by simp)
  have n_w_ro : w ≠ ro := neM hc_w hc_ro (by simp)
  have n_w_cs : w ≠ cs := neM hc_w hc_cs (by simp)
  have n_w_im : w ≠ im := neM hc_w hc_im (by simp)
  have n_w_rd : w ≠ rd := neM hc_w hc_rd (by simp)
  have n_w_mo : w ≠ mo := neM hc_w hc_mo (by simp)
  have n_w_al : w ≠ al := neM hc_w hc_al (by simp)
  have n_w_ii : w ≠ ii := neM hc_w hc_ii (by simp)
  have n_cs_ro : cs ≠ ro := neM hc_cs hc_ro (by simp)
  have n_cs_w : cs ≠ w := neM hc_cs hc_w (by simp)
  have n_cs_im : cs ≠ im := neM hc_cs hc_im (by simp)
  have n_cs_rd : cs ≠ rd := neM hc_cs hc_rd (by simp)
  have n_cs_mo : cs ≠ mo := neM hc_cs hc_mo (by simp)
  have n_cs_al : cs ≠ al := neM hc_cs hc_al (by simp)
  have n_cs_ii : cs ≠ ii := neM hc_cs hc_ii (by simp)
  have n_im_ro : im ≠ ro := neM hc_im hc_ro (by simp)
  have n_im_w : im ≠ w := neM hc_im hc_w (by simp)
  have n_im_cs : im ≠ cs := neM hc_im hc_cs (by simp)
  have n_im_rd : im ≠ rd := neM hc_im hc_rd (by simp)
  have n_im_mo : im ≠ mo := neM hc_im hc_mo (by simp)
  have n_im_al : im ≠ al := neM hc_im hc_al (by simp)
  have n_im_ii : im ≠ ii := neM hc_im hc_ii (by simp)
  have n_rd_ro : rd ≠ ro := neM hc_rd hc_ro (by simp)
  have n_rd_w : rd ≠ w := neM hc_rd hc_w (by simp)
  have n_rd_cs : rd ≠ cs := neM hc_rd hc_cs (by simp)
  have n_rd_im : rd ≠ im := neM hc_rd hc_im (by simp)
  have n_rd_mo : rd ≠ mo := neM hc_rd hc_mo (by simp)
  have n_rd_al : rd ≠ al := neM hc_rd hc_al (by simp)
  have n_rd_ii : rd ≠ ii := neM hc_rd hc_ii (by simp)
  have n_mo_ro : mo ≠ ro := neM hc_mo hc_ro (by simp)
  have n_mo_w : mo ≠ w := neM hc_mo hc_w (by simp)
  have n_mo_cs : mo ≠ cs := neM hc_mo hc_cs (by simp)
  have n_mo_im : mo ≠ im := neM hc_mo hc_im (by simp)
  have n_mo_rd : mo ≠ rd := neM hc_mo hc_rd (by simp)
  have n_mo_al : mo ≠ al := neM hc_mo hc_al (by simp)
  have n_mo_ii : mo ≠ ii := neM hc_mo hc_ii (by simp)
  have n_al_ro : al ≠ ro := neM hc_al hc_ro (by simp)
  have n_al_w : al ≠ w := neM hc_al hc_w (by simp)
  have n_al_cs : al ≠ cs := neM hc_al hc_cs (by simp)
  have n_al_im : al ≠ im := neM hc_al hc_im (by simp)
  have n_al_rd : al ≠ rd := neM hc_al hc_rd (by simp)
  have n_al_mo : al ≠ mo := neM hc_al hc_mo (by simp)
  have n_al_ii : al ≠ ii := neM hc_al hc_ii (by simp)
  have n_ii_ro : ii ≠ ro := neM hc_ii hc_ro (by simp)
  have n_ii_w : ii ≠ w := neM hc_ii hc_w (by simp)
  have n_ii_cs : ii ≠ cs := neM hc_ii hc_cs (by simp)
  have n_ii_im : ii ≠ im := neM hc_ii hc_im (by simp)
  have n_ii_rd : ii ≠ rd := neM hc_ii hc_rd (by simp)
  have n_ii_mo : ii ≠ mo := neM hc_ii hc_mo (by simp)
  have n_ii_al : ii ≠ al := neM hc_ii hc_al (by simp)
  refine lv_aload_n hx hb dL_law_184 rfl (lv_at hl 2 rfl) ?_
  refine lv_aload_n hx hb dL_law_185 rfl (lv_at hl 3 rfl) ?_
  refine lv_iload_n hx hb dL_law_186 rfl (lv_at hl 0 rfl) ?_
  refine lv_iconst (v := 1) hx hb dL_law_187 (by decide) ?_
  refine lv_iadd hx hb dL_law_188 ?_
  refine lv_cst (v := 1) (by decide) ?_
  refine va_sld hx hb hX hbl hbA hH.2.1 (iIn (by decide) (by decide)) dL_law_189 ?_
  refine lv_topi (fun vq1_ e_vq1_ => ?_)
  refine lv_aload_n hx hb dL_law_190 rfl (lv_at hl 3 rfl) ?_
  refine lv_iload_n hx hb dL_law_191 rfl (lv_at hl 0 rfl) ?_
  refine lv_iconst (v := 2) hx hb dL_law_192 (by decide) ?_
  refine lv_iadd hx hb dL_law_193 ?_
  refine lv_cst (v := 2) (by decide) ?_
  refine va_sld hx hb hX hbl hbA hH.2.1 (iIn (by decide) (by decide)) dL_law_194 ?_
  refine lv_topi (fun vq2_ e_vq2_ => ?_)
  refine lv_aload_n hx hb dL_law_195 rfl (lv_at hl 3 rfl) ?_
  refine lv_iload_n hx hb dL_law_196 rfl (lv_at hl 0 rfl) ?_
  refine lv_iconst (v := 3) hx hb dL_law_197 (by decide) ?_
  refine lv_iadd hx hb dL_law_198 ?_
  refine lv_cst (v := 3) (by decide) ?_
  refine va_sld hx hb hX hbl hbA hH.2.1 (iIn (by decide) (by decide)) dL_law_199 ?_
  refine lv_topi (fun vq3_ e_vq3_ => ?_)
  refine lv_aload_n hx hb dL_law_200 rfl (lv_at hl 3 rfl) ?_
  refine lv_iload_n hx hb dL_law_201 rfl (lv_at hl 0 rfl) ?_
  refine lv_iconst (v := 4) hx hb dL_law_202 (by decide) ?_
  refine lv_iadd hx hb dL_law_203 ?_
  refine lv_cst (v := 4) (by decide) ?_
  refine va_sld hx hb hX hbl hbA hH.2.1 (iIn (by decide) (by decide)) dL_law_204 ?_
  refine lv_topi (fun vq4_ e_vq4_ => ?_)
  refine lv_aload_n hx hb dL_law_205 rfl (lv_at hl 3 rfl) ?_
  refine lv_iload_n hx hb dL_law_206 rfl (lv_at hl 0 rfl) ?_
  refine lv_iconst (v := 5) hx hb dL_law_207 (by decide) ?_
  refine lv_iadd hx hb dL_law_208 ?_
  refine lv_cst (v := 5) (by decide) ?_
  refine va_sld hx hb hX hbl hbA hH.2.1 (iIn (by decide) (by decide)) dL_law_209 ?_
  refine lv_topi (fun vq5_ e_vq5_ => ?_)
  refine goI hK hH (runV (As := [.int vq1_, .int vq2_, .int vq3_, .int vq4_, .int vq5_]) (rest := []) hC hK hH (c_X9_feed hc_ro hc_w ht_tp) mlL_13 (rcvM hK hH hc_ro rfl) ⟨⟨Nat.le_of_ble_eq_true rfl, Nat.le_of_ble_eq_true rfl⟩, Nat.le_of_ble_eq_true rfl, Nat.le_of_ble_eq_true rfl⟩ rfl hl.1 rfl (Nat.le_of_ble_eq_true rfl) dL_law_210) (fun rq8_ Mq6_ Tq7_ Hq_ lcq_ hP hz hH => ?_)
  try dsimp only at hP
  obtain ⟨(rfl), eT, hfr⟩ := hP
  have eT := eT.symm; subst eT
  have hc_ro : Mq6_ ro = some (.inr (7, [.ref w, .ref im, .ref rd, .ref rc, .ref cu])) := (hfr ro n_ro_w).trans hc_ro
  have hc_cs : Mq6_ cs = some (.inl (kA 0, 8, .inl (c100 (fun _ => 0)))) := (hfr cs n_cs_w).trans hc_cs
  have hc_im : Mq6_ im = some (.inl (kA 6, 3, .inr (.inr (.inr (.inr (fun _ => none)))))) := (hfr im n_im_w).trans hc_im
  have hc_rd : Mq6_ rd = some (.inr (3, [.ref nb, .ref vb, .int 0, .int 0, .ref by_, .int 0, .int 0, .int 0, .int 0, .int 0])) := (hfr rd n_rd_w).trans hc_rd
  have hc_mo : Mq6_ mo = some (.inr (8, [.ref al, .ref mt, .ref ii, .int 0, .int (-1), .ref pa, .int 0, .int 0, .int 0, .int 0, .int 0, .long 0, .int 0, .ref li])) := (hfr mo n_mo_w).trans hc_mo
  have hc_al : Mq6_ al = some (.inl (kA 0, 7506, .inl F)) := (hfr al n_al_w).trans hc_al
  have hc_ii : Mq6_ ii = some (.inl (kA 2, 3, .inl (fun _ => 0))) := (hfr ii n_ii_w).trans hc_ii
  refine lv_aload_n hx hb dL_law_213 rfl (lv_at hl 1 rfl) ?_
  refine lv_aload_n hx hb dL_law_214 rfl (lv_at hl 3 rfl) ?_
  refine lv_iload_n hx hb dL_law_215 rfl (lv_at hl 0 rfl) ?_
  refine lv_iconst (v := 1) hx hb dL_law_216 (by decide) ?_
  refine lv_iadd hx hb dL_law_217 ?_
  refine lv_cst (v := 1) (by decide) ?_
  refine va_sld hx hb hX hbl hbA hH.2.1 (iIn (by decide) (by decide)) dL_law_218 ?_
  refine lv_cst (v := vq1_) e_vq1_.symm ?_
  refine lv_aload_n hx hb dL_law_219 rfl (lv_at hl 3 rfl) ?_
  refine lv_iload_n hx hb dL_law_220 rfl (lv_at hl 0 rfl) ?_
  refine lv_iconst (v := 2) hx hb dL_law_221 (by decide) ?_
  refine lv_iadd hx hb dL_law_222 ?_
  refine lv_cst (v := 2) (by decide) ?_
  refine va_sld hx hb hX hbl hbA hH.2.1 (iIn (by decide) (by decide)) dL_law_223 ?_
  refine lv_cst (v := vq2_) e_vq2_.symm ?_
  refine lv_aload_n hx hb dL_law_224 rfl (lv_at hl 3 rfl) ?_
  refine lv_iload_n hx hb dL_law_225 rfl (lv_at hl 0 rfl) ?_
  refine lv_iconst (v := 3) hx hb dL_law_226 (by decide) ?_
  refine lv_iadd hx hb dL_law_227 ?_
  refine lv_cst (v := 3) (by decide) ?_
  refine va_sld hx hb hX hbl hbA hH.2.1 (iIn (by decide) (by decide)) dL_law_228 ?_
  refine lv_cst (v := vq3_) e_vq3_.symm ?_
  refine lv_aload_n hx hb dL_law_229 rfl (lv_at hl 3 rfl) ?_
  refine lv_iload_n hx hb dL_law_230 rfl (lv_at hl 0 rfl) ?_
  refine lv_iconst (v := 4) hx hb dL_law_231 (by decide) ?_
  refine lv_iadd hx hb dL_law_232 ?_
  refine lv_cst (v := 4) (by decide) ?_
  refine va_sld hx hb hX hbl hbA hH.2.1 (iIn (by decide) (by decide)) dL_law_233 ?_
  refine lv_cst (v := vq4_) e_vq4_.symm ?_
  refine lv_aload_n hx hb dL_law_234 rfl (lv_at hl 3 rfl) ?_
  refine lv_iload_n hx hb dL_law_235 rfl (lv_at hl 0 rfl) ?_
  refine lv_iconst (v := 5) hx hb dL_law_236 (by decide) ?_
  refine lv_iadd hx hb dL_law_237 ?_
  refine lv_cst (v := 5) (by decide) ?_
  refine va_sld hx hb hX hbl hbA hH.2.1 (iIn (by decide) (by decide)) dL_law_238 ?_
  refine lv_cst (v := vq5_) e_vq5_.symm ?_
  refine goI hK hH (runV (As := [.int vq1_, .int vq2_, .int vq3_, .int vq4_, .int vq5_]) (rest := [.int 20]) hC hK hH (c_X10_feed hc_mo ht_mt) mlL_17 (rcvM hK hH hc_mo rfl) ⟨⟨Nat.le_of_ble_eq_true rfl, Nat.le_of_ble_eq_true rfl⟩, Nat.le_of_ble_eq_true rfl, Nat.le_of_ble_eq_true rfl⟩ rfl hl.1 rfl (Nat.le_of_ble_eq_true rfl) dL_law_239) (fun rq11_ Mq9_ Tq10_ Hq_ lcq_ hP hz hH => ?_)
  try dsimp only at hP
  obtain ⟨(rfl), eT, hfr⟩ := hP
  have eT := eT.symm; subst eT
  have hc_ro : Mq9_ ro = some (.inr (7, [.ref w, .ref im, .ref rd, .ref rc, .ref cu])) := (hfr ro n_ro_mo).trans hc_ro
  have hc_cs : Mq9_ cs = some (.inl (kA 0, 8, .inl (c100 (fun _ => 0)))) := (hfr cs n_cs_mo).trans hc_cs
  have hc_im : Mq9_ im = some (.inl (kA 6, 3, .inr (.inr (.inr (.inr (fun _ => none)))))) := (hfr im n_im_mo).trans hc_im
  have hc_rd : Mq9_ rd = some (.inr (3, [.ref nb, .ref vb, .int 0, .int 0, .ref by_, .int 0, .int 0, .int 0, .int 0, .int 0])) := (hfr rd n_rd_mo).trans hc_rd
  have hc_al : Mq9_ al = some (.inl (kA 0, 7506, .inl F)) := (hfr al n_al_mo).trans hc_al
  have hc_ii : Mq9_ ii = some (.inl (kA 2, 3, .inl (fun _ => 0))) := (hfr ii n_ii_mo).trans hc_ii
  refine jic_eq (tgt := 1370) hx hb dL_law_242 (by decide) (fun cq12_ => ?_) (fun cq12_ => absurd cq12_ (by decide))
  exact law_tail C0 hAq hH.2.1 (lv_sub hl [0, 3] rfl) (Nat.le_of_ble_eq_true rfl) (Nat.le_of_ble_eq_true rfl)
set_option maxHeartbeats 4000000 in
set_option maxRecDepth 100000 in
theorem law_case_1 {p : Program} {e : Env} {s : State} {m : MethodId} {below : List Frame} {meth : Method} {c : Code} {l : Launch} {b : Nat} {xs : Nat → Int32} (C0 : lw_At p s m meth c b 6 xs) {D : va_G} {kA : Nat → ClassId} (hK : mK D kA s) {M : mM} {T : mT} {A : Nat → Prop} (hAq : ∀ q, A q → s.heap.size ≤ q) {Hq_ : Heap} {lcq_ : List Loc} {ls : Array Slot} {ro w im rd rc cu cs bs tp nb by_ vb mo al mt ii pa li : Nat} {F : Nat → Int32} (hc_ro : M ro = some (.inr (7, [.ref w, .ref im, .ref rd, .ref rc, .ref cu]))) (hc_w : M w = some (.inr (6, [.int 0, .int 2, .int 0, .int 0, .int 0, .int 0, .int 0, .int (-1), .ref cs, .ref bs, .ref tp]))) (hc_cs : M cs = some (.inl (kA 0, 8, .inl (c100 (fun _ => 0))))) (hc_im : M im = some (.inl (kA 6, 3, .inr (.inr (.inr (.inr (fun _ => none))))))) (hc_rd : M rd = some (.inr (3, [.ref nb, .ref vb, .int 0, .int 0, .ref by_, .int 0, .int 0, .int 0, .int 0, .int 0]))) (hc_mo : M mo = some (.inr (8, [.ref al, .ref mt, .ref ii, .int 0, .int (-1), .ref pa, .int 0, .int 0, .int 0, .int 0, .int 0, .long 0, .int 0, .ref li]))) (hc_al : M al = some (.inl (kA 0, 7506, .inl F))) (hc_ii : M ii = some (.inl (kA 2, 3, .inl (fun _ => 0)))) (ht_bs : T bs = some 6) (ht_tp : T tp = some 7) (ht_mt : T mt = some 11) (hFi : ∀ j, j < 1140 → F j = mIni j) (hH : mS D kA M T A s.heap Hq_ lcq_) (hl : lv_has ls 4 [(3, .int 0), (2, .ref mo), (1, .ref ro), (0, .ref b)]) : W p l e room_1 s m #[Value.ref b] below meth c Hq_ lcq_ 156 11688 (lw_Z below #[Value.ref b] s) (F0 m 247 ls []) := by
  obtain ⟨hx, hb, hr, hml, hown, hts, hX, hbl, hlocks, hgv⟩ := id C0
  have hC : CallFix p m c cL_law 4 s #[Value.ref b] TB RL := ⟨hx, hb, hml, hown, fun w h => hts w (TB_in h)⟩
  have hbA : ¬ A b := fun h => absurd (hAq b h) (Nat.not_le.mpr hbl)
  have n_ro_w : ro ≠ w := neM hc_ro hc_w (by simp)
  have n_ro_cs : ro ≠ cs := neM hc_ro hc_cs (by simp)
  have n_ro_im : ro ≠ im := neM hc_ro hc_im (by simp)
  have n_ro_rd : ro ≠ rd := neM hc_ro hc_rd (by simp)
  have n_ro_mo : ro ≠ mo := neM hc_ro hc_mo (by simp)
  have n_ro_al : ro ≠ al := neM hc_ro hc_al (by simp)
  have n_ro_ii : ro ≠ ii := neM hc_ro hc_ii (by simp)
  have n_w_ro : w ≠ ro := neM hc_w hc_ro (by simp)
  have n_w_cs : w ≠ cs := neM hc_w hc_cs (by simp)
  have n_w_im : w ≠ im := neM hc_w hc_im (by simp)
  have n_w_rd : w ≠ rd := neM hc_w hc_rd (by simp)
  have n_w_mo : w ≠ mo := neM hc_w hc_mo (by simp)
  have n_w_al : w ≠ al := neM hc_w hc_al (by simp)
  have n_w_ii : w ≠ ii := neM hc_w hc_ii (by simp)
  have n_cs_ro : cs ≠ ro := neM hc_cs hc_ro (by simp)
  have n_cs_w : cs ≠ w := neM hc_cs hc_w (by simp)
  have n_cs_im : cs ≠ im := neM hc_cs hc_im (by simp)
  have n_cs_rd : cs ≠ rd := neM hc_cs hc_rd (by simp)
  have n_cs_mo : cs ≠ mo := neM hc_cs hc_mo (by simp)
  have n_cs_al : cs ≠ al := neM hc_cs hc_al (by simp)
  have n_cs_ii : cs ≠ ii := neM hc_cs hc_ii (by simp)
  have n_im_ro : im ≠ ro := neM hc_im hc_ro (by simp)
  have n_im_w : im ≠ w := neM hc_im hc_w (by simp)
  have n_im_cs : im ≠ cs := neM hc_im hc_cs (by simp)
  have n_im_rd : im ≠ rd := neM hc_im hc_rd (by simp)
  have n_im_mo : im ≠ mo := neM hc_im hc_mo (by simp)
  have n_im_al : im ≠ al := neM hc_im hc_al (by simp)
  have n_im_ii : im ≠ ii := neM hc_im hc_ii (by simp)
  have n_rd_ro : rd ≠ ro := neM hc_rd hc_ro (by simp)
  have n_rd_w : rd ≠ w := neM hc_rd hc_w (by simp)
  have n_rd_cs : rd ≠ cs := neM hc_rd hc_cs (by simp)
  have n_rd_im : rd ≠ im := neM hc_rd hc_im (by simp)
  have n_rd_mo : rd ≠ mo := neM hc_rd hc_mo (by simp)
  have n_rd_al : rd ≠ al := neM hc_rd hc_al (by simp)
  have n_rd_ii : rd ≠ ii := neM hc_rd hc_ii (by simp)
  have n_mo_ro : mo ≠ ro := neM hc_mo hc_ro (by simp)
  have n_mo_w : mo ≠ w := neM hc_mo hc_w (by simp)
  have n_mo_cs : mo ≠ cs := neM hc_mo hc_cs (by simp)
  have n_mo_im : mo ≠ im := neM hc_mo hc_im (by simp)
  have n_mo_rd : mo ≠ rd := neM hc_mo hc_rd (by simp)
  have n_mo_al : mo ≠ al := neM hc_mo hc_al (by simp)
  have n_mo_ii : mo ≠ ii := neM hc_mo hc_ii (by simp)
  have n_al_ro : al ≠ ro := neM hc_al hc_ro (by simp)
  have n_al_w : al ≠ w := neM hc_al hc_w (by simp)
  have n_al_cs : al ≠ cs := neM hc_al hc_cs (by simp)
  have n_al_im : al ≠ im := neM hc_al hc_im (by simp)
  have n_al_rd : al ≠ rd := neM hc_al hc_rd (by simp)
  have n_al_mo : al ≠ mo := neM hc_al hc_mo (by simp)
  have n_al_ii : al ≠ ii := neM hc_al hc_ii (by simp)
  have n_ii_ro : ii ≠ ro := neM hc_ii hc_ro (by simp)
  have n_ii_w : ii ≠ w := neM hc_ii hc_w (by simp)
  have n_ii_cs : ii ≠ cs := neM hc_ii hc_cs (by simp)
  have n_ii_im : ii ≠ im := neM hc_ii hc_im (by simp)
  have n_ii_rd : ii ≠ rd := neM hc_ii hc_rd (by simp)
  have n_ii_mo : ii ≠ mo := neM hc_ii hc_mo (by simp)
  have n_ii_al : ii ≠ al := neM hc_ii hc_al (by simp)
  refine lv_aload_n hx hb dL_law_247 rfl (lv_at hl 2 rfl) ?_
  refine lv_aload_n hx hb dL_law_248 rfl (lv_at hl 3 rfl) ?_
  refine lv_iload_n hx hb dL_law_249 rfl (lv_at hl 0 rfl) ?_
  refine lv_iconst (v := 1) hx hb dL_law_250 (by decide) ?_
  refine lv_iadd hx hb dL_law_251 ?_
  refine lv_cst (v := 1) (by decide) ?_
  refine va_sld hx hb hX hbl hbA hH.2.1 (iIn (by decide) (by decide)) dL_law_252 ?_
  refine lv_topi (fun vq1_ e_vq1_ => ?_)
  refine goI hK hH (runV (As := [.int vq1_]) (rest := []) hC hK hH (c_X9_end hc_ro hc_w) mlL_18 (rcvM hK hH hc_ro rfl) ⟨⟨Nat.le_of_ble_eq_true rfl, Nat.le_of_ble_eq_true rfl⟩, Nat.le_of_ble_eq_true rfl, Nat.le_of_ble_eq_true rfl⟩ rfl hl.1 rfl (Nat.le_of_ble_eq_true rfl) dL_law_253) (fun rq4_ Mq2_ Tq3_ Hq_ lcq_ hP hz hH => ?_)
  try dsimp only at hP
  obtain ⟨(⟨cq5_, rfl⟩ | ⟨cq6_, rfl⟩), eT, hfr⟩ := hP
  · skip
    have eT := eT.symm; subst eT
    have hc_ro : Mq2_ ro = some (.inr (7, [.ref w, .ref im, .ref rd, .ref rc, .ref cu])) := (hfr ro n_ro_w).trans hc_ro
    have hc_cs : Mq2_ cs = some (.inl (kA 0, 8, .inl (c100 (fun _ => 0)))) := (hfr cs n_cs_w).trans hc_cs
    have hc_im : Mq2_ im = some (.inl (kA 6, 3, .inr (.inr (.inr (.inr (fun _ => none)))))) := (hfr im n_im_w).trans hc_im
    have hc_rd : Mq2_ rd = some (.inr (3, [.ref nb, .ref vb, .int 0, .int 0, .ref by_, .int 0, .int 0, .int 0, .int 0, .int 0])) := (hfr rd n_rd_w).trans hc_rd
    have hc_mo : Mq2_ mo = some (.inr (8, [.ref al, .ref mt, .ref ii, .int 0, .int (-1), .ref pa, .int 0, .int 0, .int 0, .int 0, .int 0, .long 0, .int 0, .ref li])) := (hfr mo n_mo_w).trans hc_mo
    have hc_al : Mq2_ al = some (.inl (kA 0, 7506, .inl F)) := (hfr al n_al_w).trans hc_al
    have hc_ii : Mq2_ ii = some (.inl (kA 2, 3, .inl (fun _ => 0))) := (hfr ii n_ii_w).trans hc_ii
    have cq5_ : vq1_.toInt = 0 := cq5_
    refine lv_aload_n hx hb dL_law_256 rfl (lv_at hl 1 rfl) ?_
    refine lv_aload_n hx hb dL_law_257 rfl (lv_at hl 3 rfl) ?_
    refine lv_iload_n hx hb dL_law_258 rfl (lv_at hl 0 rfl) ?_
    refine lv_iconst (v := 1) hx hb dL_law_259 (by decide) ?_
    refine lv_iadd hx hb dL_law_260 ?_
    refine lv_cst (v := 1) (by decide) ?_
    refine va_sld hx hb hX hbl hbA hH.2.1 (iIn (by decide) (by decide)) dL_law_261 ?_
    refine lv_cst (v := vq1_) e_vq1_.symm ?_
    refine goI hK hH (runV (As := [.int vq1_]) (rest := [.int 0]) hC hK hH (c_X10_end hc_mo hc_al hFi) mlL_22 (rcvM hK hH hc_mo rfl) ⟨⟨Nat.le_of_ble_eq_true rfl, Nat.le_of_ble_eq_true rfl⟩, Nat.le_of_ble_eq_true rfl, Nat.le_of_ble_eq_true rfl⟩ rfl hl.1 rfl (Nat.le_of_ble_eq_true rfl) dL_law_262) (fun rq9_ Mq7_ Tq8_ Hq_ lcq_ hP hz hH => ?_)
    try dsimp only at hP
    obtain ⟨(⟨cq10_, rfl⟩ | ⟨cq11_, rfl⟩), eT, hfr⟩ := hP
    · skip
      have eT := eT.symm; subst eT
      have hc_ro : Mq7_ ro = some (.inr (7, [.ref w, .ref im, .ref rd, .ref rc, .ref cu])) := (hfr ro n_ro_mo).trans hc_ro
      have hc_cs : Mq7_ cs = some (.inl (kA 0, 8, .inl (c100 (fun _ => 0)))) := (hfr cs n_cs_mo).trans hc_cs
      have hc_im : Mq7_ im = some (.inl (kA 6, 3, .inr (.inr (.inr (.inr (fun _ => none)))))) := (hfr im n_im_mo).trans hc_im
      have hc_rd : Mq7_ rd = some (.inr (3, [.ref nb, .ref vb, .int 0, .int 0, .ref by_, .int 0, .int 0, .int 0, .int 0, .int 0])) := (hfr rd n_rd_mo).trans hc_rd
      have hc_al : Mq7_ al = some (.inl (kA 0, 7506, .inl F)) := (hfr al n_al_mo).trans hc_al
      have hc_ii : Mq7_ ii = some (.inl (kA 2, 3, .inl (fun _ => 0))) := (hfr ii n_ii_mo).trans hc_ii
      have cq10_ : vq1_.toInt = 0 := cq10_
      refine jic_eq (tgt := 1370) hx hb dL_law_265 (by decide) (fun cq12_ => ?_) (fun cq12_ => absurd cq12_ (by decide))
      exact law_tail C0 hAq hH.2.1 (lv_sub hl [0, 3] rfl) (Nat.le_of_ble_eq_true rfl) (Nat.le_of_ble_eq_true rfl)
    · skip
      have eT := eT.symm; subst eT
      have hc_ro : Mq7_ ro = some (.inr (7, [.ref w, .ref im, .ref rd, .ref rc, .ref cu])) := (hfr ro n_ro_mo).trans hc_ro
      have hc_cs : Mq7_ cs = some (.inl (kA 0, 8, .inl (c100 (fun _ => 0)))) := (hfr cs n_cs_mo).trans hc_cs
      have hc_im : Mq7_ im = some (.inl (kA 6, 3, .inr (.inr (.inr (.inr (fun _ => none)))))) := (hfr im n_im_mo).trans hc_im
      have hc_rd : Mq7_ rd = some (.inr (3, [.ref nb, .ref vb, .int 0, .int 0, .ref by_, .int 0, .int 0, .int 0, .int 0, .int 0])) := (hfr rd n_rd_mo).trans hc_rd
      have hc_al : Mq7_ al = some (.inl (kA 0, 7506, .inl F)) := (hfr al n_al_mo).trans hc_al
      have hc_ii : Mq7_ ii = some (.inl (kA 2, 3, .inl (fun _ => 0))) := (hfr ii n_ii_mo).trans hc_ii
      have cq11_ : vq1_.toInt ≠ 0 := cq11_
      exfalso; omega
  · skip
    have eT := eT.symm; subst eT
    have hc_ro : Mq2_ ro = some (.inr (7, [.ref w, .ref im, .ref rd, .ref rc, .ref cu])) := (hfr ro n_ro_w).trans hc_ro
    have hc_cs : Mq2_ cs = some (.inl (kA 0, 8, .inl (c100 (fun _ => 0)))) := (hfr cs n_cs_w).trans hc_cs
    have hc_im : Mq2_ im = some (.inl (kA 6, 3, .inr (.inr (.inr (.inr (fun _ => none)))))) := (hfr im n_im_w).trans hc_im
    have hc_rd : Mq2_ rd = some (.inr (3, [.ref nb, .ref vb, .int 0, .int 0, .ref by_, .int 0, .int 0, .int 0, .int 0, .int 0])) := (hfr rd n_rd_w).trans hc_rd
    have hc_mo : Mq2_ mo = some (.inr (8, [.ref al, .ref mt, .ref ii, .int 0, .int (-1), .ref pa, .int 0, .int 0, .int 0, .int 0, .int 0, .long 0, .int 0, .ref li])) := (hfr mo n_mo_w).trans hc_mo
    have hc_al : Mq2_ al = some (.inl (kA 0, 7506, .inl F)) := (hfr al n_al_w).trans hc_al
    have hc_ii : Mq2_ ii = some (.inl (kA 2, 3, .inl (fun _ => 0))) := (hfr ii n_ii_w).trans hc_ii
    have cq6_ : vq1_.toInt ≠ 0 := cq6_
    refine lv_aload_n hx hb dL_law_256 rfl (lv_at hl 1 rfl) ?_
    refine lv_aload_n hx hb dL_law_257 rfl (lv_at hl 3 rfl) ?_
    refine lv_iload_n hx hb dL_law_258 rfl (lv_at hl 0 rfl) ?_
    refine lv_iconst (v := 1) hx hb dL_law_259 (by decide) ?_
    refine lv_iadd hx hb dL_law_260 ?_
    refine lv_cst (v := 1) (by decide) ?_
    refine va_sld hx hb hX hbl hbA hH.2.1 (iIn (by decide) (by decide)) dL_law_261 ?_
    refine lv_cst (v := vq1_) e_vq1_.symm ?_
    refine goI hK hH (runV (As := [.int vq1_]) (rest := [.int (-1)]) hC hK hH (c_X10_end hc_mo hc_al hFi) mlL_22 (rcvM hK hH hc_mo rfl) ⟨⟨Nat.le_of_ble_eq_true rfl, Nat.le_of_ble_eq_true rfl⟩, Nat.le_of_ble_eq_true rfl, Nat.le_of_ble_eq_true rfl⟩ rfl hl.1 rfl (Nat.le_of_ble_eq_true rfl) dL_law_262) (fun rq15_ Mq13_ Tq14_ Hq_ lcq_ hP hz hH => ?_)
    try dsimp only at hP
    obtain ⟨(⟨cq16_, rfl⟩ | ⟨cq17_, rfl⟩), eT, hfr⟩ := hP
    · skip
      have eT := eT.symm; subst eT
      have hc_ro : Mq13_ ro = some (.inr (7, [.ref w, .ref im, .ref rd, .ref rc, .ref cu])) := (hfr ro n_ro_mo).trans hc_ro
      have hc_cs : Mq13_ cs = some (.inl (kA 0, 8, .inl (c100 (fun _ => 0)))) := (hfr cs n_cs_mo).trans hc_cs
      have hc_im : Mq13_ im = some (.inl (kA 6, 3, .inr (.inr (.inr (.inr (fun _ => none)))))) := (hfr im n_im_mo).trans hc_im
      have hc_rd : Mq13_ rd = some (.inr (3, [.ref nb, .ref vb, .int 0, .int 0, .ref by_, .int 0, .int 0, .int 0, .int 0, .int 0])) := (hfr rd n_rd_mo).trans hc_rd
      have hc_al : Mq13_ al = some (.inl (kA 0, 7506, .inl F)) := (hfr al n_al_mo).trans hc_al
      have hc_ii : Mq13_ ii = some (.inl (kA 2, 3, .inl (fun _ => 0))) := (hfr ii n_ii_mo).trans hc_ii
      have cq16_ : vq1_.toInt = 0 := cq16_
      exfalso; omega
    · skip
      have eT := eT.symm; subst eT
      have hc_ro : Mq13_ ro = some (.inr (7, [.ref w, .ref im, .ref rd, .ref rc, .ref cu])) := (hfr ro n_ro_mo).trans hc_ro
      have hc_cs : Mq13_ cs = some (.inl (kA 0, 8, .inl (c100 (fun _ => 0)))) := (hfr cs n_cs_mo).trans hc_cs
      have hc_im : Mq13_ im = some (.inl (kA 6, 3, .inr (.inr (.inr (.inr (fun _ => none)))))) := (hfr im n_im_mo).trans hc_im
      have hc_rd : Mq13_ rd = some (.inr (3, [.ref nb, .ref vb, .int 0, .int 0, .ref by_, .int 0, .int 0, .int 0, .int 0, .int 0])) := (hfr rd n_rd_mo).trans hc_rd
      have hc_al : Mq13_ al = some (.inl (kA 0, 7506, .inl F)) := (hfr al n_al_mo).trans hc_al
      have hc_ii : Mq13_ ii = some (.inl (kA 2, 3, .inl (fun _ => 0))) := (hfr ii n_ii_mo).trans hc_ii
      have cq17_ : vq1_.toInt ≠ 0 := cq17_
      refine jic_eq (tgt := 1370) hx hb dL_law_265 (by decide) (fun cq18_ => ?_) (fun cq18_ => absurd cq18_ (by decide))
      exact law_tail C0 hAq hH.2.1 (lv_sub hl [0, 3] rfl) (Nat.le_of_ble_eq_true rfl) (Nat.le_of_ble_eq_true rfl)
set_option maxHeartbeats 4000000 in
set_option maxRecDepth 100000 in
theorem law_case_2 {p : Program} {e : Env} {s : State} {m : MethodId} {below : List Frame} {meth : Method} {c : Code} {l : Launch} {b : Nat} {xs : Nat → Int32} (C0 : lw_At p s m meth c b 6 xs) {D : va_G} {kA : Nat → ClassId} (hK : mK D kA s) {M : mM} {T : mT} {A : Nat → Prop} (hAq : ∀ q, A q → s.heap.size ≤ q) {Hq_ : Heap} {lcq_ : List Loc} {ls : Array Slot} {ro w im rd rc cu cs bs tp nb by_ vb mo al mt ii pa li : Nat} {F : Nat → Int32} (hc_ro : M ro = some (.inr (7, [.ref w, .ref im, .ref rd, .ref rc, .ref cu]))) (hc_w : M w = some (.inr (6, [.int 0, .int 2, .int 0, .int 0, .int 0, .int 0, .int 0, .int (-1), .ref cs, .ref bs, .ref tp]))) (hc_cs : M cs = some (.inl (kA 0, 8, .inl (c100 (fun _ => 0))))) (hc_im : M im = some (.inl (kA 6, 3, .inr (.inr (.inr (.inr (fun _ => none))))))) (hc_rd : M rd = some (.inr (3, [.ref nb, .ref vb, .int 0, .int 0, .ref by_, .int 0, .int 0, .int 0, .int 0, .int 0]))) (hc_mo : M mo = some (.inr (8, [.ref al, .ref mt, .ref ii, .int 0, .int (-1), .ref pa, .int 0, .int 0, .int 0, .int 0, .int 0, .long 0, .int 0, .ref li]))) (hc_al : M al = some (.inl (kA 0, 7506, .inl F))) (hc_ii : M ii = some (.inl (kA 2, 3, .inl (fun _ => 0)))) (ht_bs : T bs = some 6) (ht_tp : T tp = some 7) (ht_mt : T mt = some 11) (hFi : ∀ j, j < 1140 → F j = mIni j) (hH : mS D kA M T A s.heap Hq_ lcq_) (hl : lv_has ls 4 [(3, .int 0), (2, .ref mo), (1, .ref ro), (0, .ref b)]) : W p l e room_1 s m #[Value.ref b] below meth c Hq_ lcq_ 156 11688 (lw_Z below #[Value.ref b] s) (F0 m 270 ls []) := by
  obtain ⟨hx, hb, hr, hml, hown, hts, hX, hbl, hlocks, hgv⟩ := id C0
  have hC : CallFix p m c cL_law 4 s #[Value.ref b] TB RL := ⟨hx, hb, hml, hown, fun w h => hts w (TB_in h)⟩
  have hbA : ¬ A b := fun h => absurd (hAq b h) (Nat.not_le.mpr hbl)
  have n_ro_w : ro ≠ w := neM hc_ro hc_w (by simp)
  have n_ro_cs : ro ≠ cs := neM hc_ro hc_cs (by simp)
  have n_ro_im : ro ≠ im := neM hc_ro hc_im (by simp)
  have n_ro_rd : ro ≠ rd := neM hc_ro hc_rd (by simp)
  have n_ro_mo : ro ≠ mo := neM hc_ro hc_mo (by simp)
  have n_ro_al : ro ≠ al := neM hc_ro hc_al (by simp)
  have n_ro_ii : ro ≠ ii := neM hc_ro hc_ii (by simp)
  have n_w_ro : w ≠ ro := neM hc_w hc_ro (by simp)
  have n_w_cs : w ≠ cs := neM hc_w hc_cs (by simp)
  have n_w_im : w ≠ im := neM hc_w hc_im (by simp)
  have n_w_rd : w ≠ rd := neM hc_w hc_rd (by simp)
  have n_w_mo : w ≠ mo := neM hc_w hc_mo (by simp)
  have n_w_al : w ≠ al := neM hc_w hc_al (by simp)
  have n_w_ii : w ≠ ii := neM hc_w hc_ii (by simp)
  have n_cs_ro : cs ≠ ro := neM hc_cs hc_ro (by simp)
  have n_cs_w : cs ≠ w := neM hc_cs hc_w (by simp)
  have n_cs_im : cs ≠ im := neM hc_cs hc_im (by simp)
  have n_cs_rd : cs ≠ rd := neM hc_cs hc_rd (by simp)
  have n_cs_mo : cs ≠ mo := neM hc_cs hc_mo (by simp)
  have n_cs_al : cs ≠ al := neM hc_cs hc_al (by simp)
  have n_cs_ii : cs ≠ ii := neM hc_cs hc_ii (by simp)
  have n_im_ro : im ≠ ro := neM hc_im hc_ro (by simp)
  have n_im_w : im ≠ w := neM hc_im hc_w (by simp)
  have n_im_cs : im ≠ cs := neM hc_im hc_cs (by simp)
  have n_im_rd : im ≠ rd := neM hc_im hc_rd (by simp)
  have n_im_mo : im ≠ mo := neM hc_im hc_mo (by simp)
  have n_im_al : im ≠ al := neM hc_im hc_al (by simp)
  have n_im_ii : im ≠ ii := neM hc_im hc_ii (by simp)
  have n_rd_ro : rd ≠ ro := neM hc_rd hc_ro (by simp)
  have n_rd_w : rd ≠ w := neM hc_rd hc_w (by simp)
  have n_rd_cs : rd ≠ cs := neM hc_rd hc_cs (by simp)
  have n_rd_im : rd ≠ im := neM hc_rd hc_im (by simp)
  have n_rd_mo : rd ≠ mo := neM hc_rd hc_mo (by simp)
  have n_rd_al : rd ≠ al := neM hc_rd hc_al (by simp)
  have n_rd_ii : rd ≠ ii := neM hc_rd hc_ii (by simp)
  have n_mo_ro : mo ≠ ro := neM hc_mo hc_ro (by simp)
  have n_mo_w : mo ≠ w := neM hc_mo hc_w (by simp)
  have n_mo_cs : mo ≠ cs := neM hc_mo hc_cs (by simp)
  have n_mo_im : mo ≠ im := neM hc_mo hc_im (by simp)
  have n_mo_rd : mo ≠ rd := neM hc_mo hc_rd (by simp)
  have n_mo_al : mo ≠ al := neM hc_mo hc_al (by simp)
  have n_mo_ii : mo ≠ ii := neM hc_mo hc_ii (by simp)
  have n_al_ro : al ≠ ro := neM hc_al hc_ro (by simp)
  have n_al_w : al ≠ w := neM hc_al hc_w (by simp)
  have n_al_cs : al ≠ cs := neM hc_al hc_cs (by simp)
  have n_al_im : al ≠ im := neM hc_al hc_im (by simp)
  have n_al_rd : al ≠ rd := neM hc_al hc_rd (by simp)
  have n_al_mo : al ≠ mo := neM hc_al hc_mo (by simp)
  have n_al_ii : al ≠ ii := neM hc_al hc_ii (by simp)
  have n_ii_ro : ii ≠ ro := neM hc_ii hc_ro (by simp)
  have n_ii_w : ii ≠ w := neM hc_ii hc_w (by simp)
  have n_ii_cs : ii ≠ cs := neM hc_ii hc_cs (by simp)
  have n_ii_im : ii ≠ im := neM hc_ii hc_im (by simp)
  have n_ii_rd : ii ≠ rd := neM hc_ii hc_rd (by simp)
  have n_ii_mo : ii ≠ mo := neM hc_ii hc_mo (by simp)
  have n_ii_al : ii ≠ al := neM hc_ii hc_al (by simp)
  refine lv_aload_n hx hb dL_law_270 rfl (lv_at hl 2 rfl) ?_
  refine lv_aload_n hx hb dL_law_271 rfl (lv_at hl 3 rfl) ?_
  refine lv_iload_n hx hb dL_law_272 rfl (lv_at hl 0 rfl) ?_
  refine lv_iconst (v := 1) hx hb dL_law_273 (by decide) ?_
  refine lv_iadd hx hb dL_law_274 ?_
  refine lv_cst (v := 1) (by decide) ?_
  refine va_sld hx hb hX hbl hbA hH.2.1 (iIn (by decide) (by decide)) dL_law_275 ?_
  refine lv_topi (fun vq1_ e_vq1_ => ?_)
  refine jif_eq (tgt := 283) hx hb dL_law_276 (by decide) (fun cq2_ => ?_) (fun cq2_ => ?_)
  · skip
    have cq2_ : vq1_.toInt = 0 := cq2_
    refine lv_iconst (v := 0) hx hb dL_law_283 (by decide) ?_
    refine goI hK hH (runV (As := [.int 0]) (rest := []) hC hK hH (c_X9_text hc_ro hc_w hc_cs hc_rd ht_tp) mlL_23 (rcvM hK hH hc_ro rfl) ⟨⟨Nat.le_of_ble_eq_true rfl, Nat.le_of_ble_eq_true rfl⟩, Nat.le_of_ble_eq_true rfl, Nat.le_of_ble_eq_true rfl⟩ rfl hl.1 rfl (Nat.le_of_ble_eq_true rfl) dL_law_284) (fun rq5_ Mq3_ Tq4_ Hq_ lcq_ hP hz hH => ?_)
    try dsimp only at hP
    obtain ⟨(rfl), eT, hfr⟩ := hP
    have eT := eT.symm; subst eT
    have hc_ro : Mq3_ ro = some (.inr (7, [.ref w, .ref im, .ref rd, .ref rc, .ref cu])) := (hfr ro n_ro_w n_ro_cs n_ro_rd).trans hc_ro
    have hc_im : Mq3_ im = some (.inl (kA 6, 3, .inr (.inr (.inr (.inr (fun _ => none)))))) := (hfr im n_im_w n_im_cs n_im_rd).trans hc_im
    have hc_mo : Mq3_ mo = some (.inr (8, [.ref al, .ref mt, .ref ii, .int 0, .int (-1), .ref pa, .int 0, .int 0, .int 0, .int 0, .int 0, .long 0, .int 0, .ref li])) := (hfr mo n_mo_w n_mo_cs n_mo_rd).trans hc_mo
    have hc_al : Mq3_ al = some (.inl (kA 0, 7506, .inl F)) := (hfr al n_al_w n_al_cs n_al_rd).trans hc_al
    have hc_ii : Mq3_ ii = some (.inl (kA 2, 3, .inl (fun _ => 0))) := (hfr ii n_ii_w n_ii_cs n_ii_rd).trans hc_ii
    refine lv_aload_n hx hb dL_law_287 rfl (lv_at hl 1 rfl) ?_
    refine lv_aload_n hx hb dL_law_288 rfl (lv_at hl 3 rfl) ?_
    refine lv_iload_n hx hb dL_law_289 rfl (lv_at hl 0 rfl) ?_
    refine lv_iconst (v := 1) hx hb dL_law_290 (by decide) ?_
    refine lv_iadd hx hb dL_law_291 ?_
    refine lv_cst (v := 1) (by decide) ?_
    refine va_sld hx hb hX hbl hbA hH.2.1 (iIn (by decide) (by decide)) dL_law_292 ?_
    refine lv_cst (v := vq1_) e_vq1_.symm ?_
    refine jif_eq (tgt := 300) hx hb dL_law_293 (by decide) (fun cq6_ => ?_) (fun cq6_ => absurd cq6_ (by have := iRg vq1_; have : (0 : Int32).toInt = 0 := rfl; omega))
    have cq6_ : vq1_.toInt = 0 := cq6_
    refine lv_iconst (v := 0) hx hb dL_law_300 (by decide) ?_
    refine goI hK hH (runV (As := [.int 0]) (rest := [.int 0]) hC hK hH (c_X10_text hc_mo hc_al) mlL_27 (rcvM hK hH hc_mo rfl) ⟨⟨Nat.le_of_ble_eq_true rfl, Nat.le_of_ble_eq_true rfl⟩, Nat.le_of_ble_eq_true rfl, Nat.le_of_ble_eq_true rfl⟩ rfl hl.1 rfl (Nat.le_of_ble_eq_true rfl) dL_law_301) (fun rq9_ Mq7_ Tq8_ Hq_ lcq_ hP hz hH => ?_)
    try dsimp only at hP
    obtain ⟨(rfl), eT, hfr⟩ := hP
    have eT := eT.symm; subst eT
    have hc_ro : Mq7_ ro = some (.inr (7, [.ref w, .ref im, .ref rd, .ref rc, .ref cu])) := (hfr ro n_ro_mo n_ro_al).trans hc_ro
    have hc_im : Mq7_ im = some (.inl (kA 6, 3, .inr (.inr (.inr (.inr (fun _ => none)))))) := (hfr im n_im_mo n_im_al).trans hc_im
    have hc_ii : Mq7_ ii = some (.inl (kA 2, 3, .inl (fun _ => 0))) := (hfr ii n_ii_mo n_ii_al).trans hc_ii
    refine jic_eq (tgt := 1370) hx hb dL_law_304 (by decide) (fun cq10_ => ?_) (fun cq10_ => absurd cq10_ (by decide))
    exact law_tail C0 hAq hH.2.1 (lv_sub hl [0, 3] rfl) (Nat.le_of_ble_eq_true rfl) (Nat.le_of_ble_eq_true rfl)
  · skip
    have cq2_ : vq1_.toInt ≠ 0 := cq2_
    refine lv_iconst (v := 1) hx hb dL_law_279 (by decide) ?_
    refine lv_goto (tgt := 284) hx hb dL_law_280 (by decide) ?_
    refine goI hK hH (runV (As := [.int 1]) (rest := []) hC hK hH (c_X9_text hc_ro hc_w hc_cs hc_rd ht_tp) mlL_23 (rcvM hK hH hc_ro rfl) ⟨⟨Nat.le_of_ble_eq_true rfl, Nat.le_of_ble_eq_true rfl⟩, Nat.le_of_ble_eq_true rfl, Nat.le_of_ble_eq_true rfl⟩ rfl hl.1 rfl (Nat.le_of_ble_eq_true rfl) dL_law_284) (fun rq13_ Mq11_ Tq12_ Hq_ lcq_ hP hz hH => ?_)
    try dsimp only at hP
    obtain ⟨(rfl), eT, hfr⟩ := hP
    have eT := eT.symm; subst eT
    have hc_ro : Mq11_ ro = some (.inr (7, [.ref w, .ref im, .ref rd, .ref rc, .ref cu])) := (hfr ro n_ro_w n_ro_cs n_ro_rd).trans hc_ro
    have hc_im : Mq11_ im = some (.inl (kA 6, 3, .inr (.inr (.inr (.inr (fun _ => none)))))) := (hfr im n_im_w n_im_cs n_im_rd).trans hc_im
    have hc_mo : Mq11_ mo = some (.inr (8, [.ref al, .ref mt, .ref ii, .int 0, .int (-1), .ref pa, .int 0, .int 0, .int 0, .int 0, .int 0, .long 0, .int 0, .ref li])) := (hfr mo n_mo_w n_mo_cs n_mo_rd).trans hc_mo
    have hc_al : Mq11_ al = some (.inl (kA 0, 7506, .inl F)) := (hfr al n_al_w n_al_cs n_al_rd).trans hc_al
    have hc_ii : Mq11_ ii = some (.inl (kA 2, 3, .inl (fun _ => 0))) := (hfr ii n_ii_w n_ii_cs n_ii_rd).trans hc_ii
    refine lv_aload_n hx hb dL_law_287 rfl (lv_at hl 1 rfl) ?_
    refine lv_aload_n hx hb dL_law_288 rfl (lv_at hl 3 rfl) ?_
    refine lv_iload_n hx hb dL_law_289 rfl (lv_at hl 0 rfl) ?_
    refine lv_iconst (v := 1) hx hb dL_law_290 (by decide) ?_
    refine lv_iadd hx hb dL_law_291 ?_
    refine lv_cst (v := 1) (by decide) ?_
    refine va_sld hx hb hX hbl hbA hH.2.1 (iIn (by decide) (by decide)) dL_law_292 ?_
    refine lv_cst (v := vq1_) e_vq1_.symm ?_
    refine jif_eq (tgt := 300) hx hb dL_law_293 (by decide) (fun cq14_ => ?_) (fun cq14_ => ?_)
    · skip
      have cq14_ : vq1_.toInt = 0 := cq14_
      refine lv_iconst (v := 0) hx hb dL_law_300 (by decide) ?_
      refine goI hK hH (runV (As := [.int 0]) (rest := [.int 0]) hC hK hH (c_X10_text hc_mo hc_al) mlL_27 (rcvM hK hH hc_mo rfl) ⟨⟨Nat.le_of_ble_eq_true rfl, Nat.le_of_ble_eq_true rfl⟩, Nat.le_of_ble_eq_true rfl, Nat.le_of_ble_eq_true rfl⟩ rfl hl.1 rfl (Nat.le_of_ble_eq_true rfl) dL_law_301) (fun rq17_ Mq15_ Tq16_ Hq_ lcq_ hP hz hH => ?_)
      try dsimp only at hP
      obtain ⟨(rfl), eT, hfr⟩ := hP
      have eT := eT.symm; subst eT
      have hc_ro : Mq15_ ro = some (.inr (7, [.ref w, .ref im, .ref rd, .ref rc, .ref cu])) := (hfr ro n_ro_mo n_ro_al).trans hc_ro
      have hc_im : Mq15_ im = some (.inl (kA 6, 3, .inr (.inr (.inr (.inr (fun _ => none)))))) := (hfr im n_im_mo n_im_al).trans hc_im
      have hc_ii : Mq15_ ii = some (.inl (kA 2, 3, .inl (fun _ => 0))) := (hfr ii n_ii_mo n_ii_al).trans hc_ii
      refine jic_eq (tgt := 1370) hx hb dL_law_304 (by decide) (fun cq18_ => ?_) (fun cq18_ => absurd cq18_ (by decide))
      exact law_tail C0 hAq hH.2.1 (lv_sub hl [0, 3] rfl) (Nat.le_of_ble_eq_true rfl) (Nat.le_of_ble_eq_true rfl)
    · skip
      have cq14_ : vq1_.toInt ≠ 0 := cq14_
      refine lv_iconst (v := 1) hx hb dL_law_296 (by decide) ?_
      refine lv_goto (tgt := 301) hx hb dL_law_297 (by decide) ?_
      refine goI hK hH (runV (As := [.int 1]) (rest := [.int 0]) hC hK hH (c_X10_text hc_mo hc_al) mlL_27 (rcvM hK hH hc_mo rfl) ⟨⟨Nat.le_of_ble_eq_true rfl, Nat.le_of_ble_eq_true rfl⟩, Nat.le_of_ble_eq_true rfl, Nat.le_of_ble_eq_true rfl⟩ rfl hl.1 rfl (Nat.le_of_ble_eq_true rfl) dL_law_301) (fun rq21_ Mq19_ Tq20_ Hq_ lcq_ hP hz hH => ?_)
      try dsimp only at hP
      obtain ⟨(rfl), eT, hfr⟩ := hP
      have eT := eT.symm; subst eT
      have hc_ro : Mq19_ ro = some (.inr (7, [.ref w, .ref im, .ref rd, .ref rc, .ref cu])) := (hfr ro n_ro_mo n_ro_al).trans hc_ro
      have hc_im : Mq19_ im = some (.inl (kA 6, 3, .inr (.inr (.inr (.inr (fun _ => none)))))) := (hfr im n_im_mo n_im_al).trans hc_im
      have hc_ii : Mq19_ ii = some (.inl (kA 2, 3, .inl (fun _ => 0))) := (hfr ii n_ii_mo n_ii_al).trans hc_ii
      refine jic_eq (tgt := 1370) hx hb dL_law_304 (by decide) (fun cq22_ => ?_) (fun cq22_ => absurd cq22_ (by decide))
      exact law_tail C0 hAq hH.2.1 (lv_sub hl [0, 3] rfl) (Nat.le_of_ble_eq_true rfl) (Nat.le_of_ble_eq_true rfl)
set_option maxHeartbeats 4000000 in
set_option maxRecDepth 100000 in
theorem law_case_3 {p : Program} {e : Env} {s : State} {m : MethodId} {below : List Frame} {meth : Method} {c : Code} {l : Launch} {b : Nat} {xs : Nat → Int32} (C0 : lw_At p s m meth c b 6 xs) {D : va_G} {kA : Nat → ClassId} (hK : mK D kA s) {M : mM} {T : mT} {A : Nat → Prop} (hAq : ∀ q, A q → s.heap.size ≤ q) {Hq_ : Heap} {lcq_ : List Loc} {ls : Array Slot} {ro w im rd rc cu cs bs tp nb by_ vb mo al mt ii pa li : Nat} {F : Nat → Int32} (hc_ro : M ro = some (.inr (7, [.ref w, .ref im, .ref rd, .ref rc, .ref cu]))) (hc_w : M w = some (.inr (6, [.int 0, .int 2, .int 0, .int 0, .int 0, .int 0, .int 0, .int (-1), .ref cs, .ref bs, .ref tp]))) (hc_cs : M cs = some (.inl (kA 0, 8, .inl (c100 (fun _ => 0))))) (hc_im : M im = some (.inl (kA 6, 3, .inr (.inr (.inr (.inr (fun _ => none))))))) (hc_rd : M rd = some (.inr (3, [.ref nb, .ref vb, .int 0, .int 0, .ref by_, .int 0, .int 0, .int 0, .int 0, .int 0]))) (hc_mo : M mo = some (.inr (8, [.ref al, .ref mt, .ref ii, .int 0, .int (-1), .ref pa, .int 0, .int 0, .int 0, .int 0, .int 0, .long 0, .int 0, .ref li]))) (hc_al : M al = some (.inl (kA 0, 7506, .inl F))) (hc_ii : M ii = some (.inl (kA 2, 3, .inl (fun _ => 0)))) (ht_bs : T bs = some 6) (ht_tp : T tp = some 7) (ht_mt : T mt = some 11) (hFi : ∀ j, j < 1140 → F j = mIni j) (hH : mS D kA M T A s.heap Hq_ lcq_) (hl : lv_has ls 4 [(3, .int 0), (2, .ref mo), (1, .ref ro), (0, .ref b)]) : W p l e room_1 s m #[Value.ref b] below meth c Hq_ lcq_ 156 11688 (lw_Z below #[Value.ref b] s) (F0 m 309 ls []) := by
  obtain ⟨hx, hb, hr, hml, hown, hts, hX, hbl, hlocks, hgv⟩ := id C0
  have hC : CallFix p m c cL_law 4 s #[Value.ref b] TB RL := ⟨hx, hb, hml, hown, fun w h => hts w (TB_in h)⟩
  have hbA : ¬ A b := fun h => absurd (hAq b h) (Nat.not_le.mpr hbl)
  have n_ro_w : ro ≠ w := neM hc_ro hc_w (by simp)
  have n_ro_cs : ro ≠ cs := neM hc_ro hc_cs (by simp)
  have n_ro_im : ro ≠ im := neM hc_ro hc_im (by simp)
  have n_ro_rd : ro ≠ rd := neM hc_ro hc_rd (by simp)
  have n_ro_mo : ro ≠ mo := neM hc_ro hc_mo (by simp)
  have n_ro_al : ro ≠ al := neM hc_ro hc_al (by simp)
  have n_ro_ii : ro ≠ ii := neM hc_ro hc_ii (by simp)
  have n_w_ro : w ≠ ro := neM hc_w hc_ro (by simp)
  have n_w_cs : w ≠ cs := neM hc_w hc_cs (by simp)
  have n_w_im : w ≠ im := neM hc_w hc_im (by simp)
  have n_w_rd : w ≠ rd := neM hc_w hc_rd (by simp)
  have n_w_mo : w ≠ mo := neM hc_w hc_mo (by simp)
  have n_w_al : w ≠ al := neM hc_w hc_al (by simp)
  have n_w_ii : w ≠ ii := neM hc_w hc_ii (by simp)
  have n_cs_ro : cs ≠ ro := neM hc_cs hc_ro (by simp)
  have n_cs_w : cs ≠ w := neM hc_cs hc_w (by simp)
  have n_cs_im : cs ≠ im := neM hc_cs hc_im (by simp)
  have n_cs_rd : cs ≠ rd := neM hc_cs hc_rd (by simp)
  have n_cs_mo : cs ≠ mo := neM hc_cs hc_mo (by simp)
  have n_cs_al : cs ≠ al := neM hc_cs hc_al (by simp)
  have n_cs_ii : cs ≠ ii := neM hc_cs hc_ii (by simp)
  have n_im_ro : im ≠ ro := neM hc_im hc_ro (by simp)
  have n_im_w : im ≠ w := neM hc_im hc_w (by simp)
  have n_im_cs : im ≠ cs := neM hc_im hc_cs (by simp)
  have n_im_rd : im ≠ rd := neM hc_im hc_rd (by simp)
  have n_im_mo : im ≠ mo := neM hc_im hc_mo (by simp)
  have n_im_al : im ≠ al := neM hc_im hc_al (by simp)
  have n_im_ii : im ≠ ii := neM hc_im hc_ii (by simp)
  have n_rd_ro : rd ≠ ro := neM hc_rd hc_ro (by simp)
  have n_rd_w : rd ≠ w := neM hc_rd hc_w (by simp)
  have n_rd_cs : rd ≠ cs := neM hc_rd hc_cs (by simp)
  have n_rd_im : rd ≠ im := neM hc_rd hc_im (by simp)
  have n_rd_mo : rd ≠ mo := neM hc_rd hc_mo (by simp)
  have n_rd_al : rd ≠ al := neM hc_rd hc_al (by simp)
  have n_rd_ii : rd ≠ ii := neM hc_rd hc_ii (by simp)
  have n_mo_ro : mo ≠ ro := neM hc_mo hc_ro (by simp)
  have n_mo_w : mo ≠ w := neM hc_mo hc_w (by simp)
  have n_mo_cs : mo ≠ cs := neM hc_mo hc_cs (by simp)
  have n_mo_im : mo ≠ im := neM hc_mo hc_im (by simp)
  have n_mo_rd : mo ≠ rd := neM hc_mo hc_rd (by simp)
  have n_mo_al : mo ≠ al := neM hc_mo hc_al (by simp)
  have n_mo_ii : mo ≠ ii := neM hc_mo hc_ii (by simp)
  have n_al_ro : al ≠ ro := neM hc_al hc_ro (by simp)
  have n_al_w : al ≠ w := neM hc_al hc_w (by simp)
  have n_al_cs : al ≠ cs := neM hc_al hc_cs (by simp)
  have n_al_im : al ≠ im := neM hc_al hc_im (by simp)
  have n_al_rd : al ≠ rd := neM hc_al hc_rd (by simp)
  have n_al_mo : al ≠ mo := neM hc_al hc_mo (by simp)
  have n_al_ii : al ≠ ii := neM hc_al hc_ii (by simp)
  have n_ii_ro : ii ≠ ro := neM hc_ii hc_ro (by simp)
  have n_ii_w : ii ≠ w := neM hc_ii hc_w (by simp)
  have n_ii_cs : ii ≠ cs := neM hc_ii hc_cs (by simp)
  have n_ii_im : ii ≠ im := neM hc_ii hc_im (by simp)
  have n_ii_rd : ii ≠ rd := neM hc_ii hc_rd (by simp)
  have n_ii_mo : ii ≠ mo := neM hc_ii hc_mo (by simp)
  have n_ii_al : ii ≠ al := neM hc_ii hc_al (by simp)
  refine lv_aload_n hx hb dL_law_309 rfl (lv_at hl 2 rfl) ?_
  refine goI hK hH (runV (As := []) (rest := []) hC hK hH (c_X9_fault hc_ro hc_w) mlL_28 (rcvM hK hH hc_ro rfl) ⟨⟨Nat.le_of_ble_eq_true rfl, Nat.le_of_ble_eq_true rfl⟩, Nat.le_of_ble_eq_true rfl, Nat.le_of_ble_eq_true rfl⟩ rfl hl.1 rfl (Nat.le_of_ble_eq_true rfl) dL_law_310) (fun rq3_ Mq1_ Tq2_ Hq_ lcq_ hP hz hH => ?_)
  try dsimp only at hP
  obtain ⟨(rfl), eT, eM⟩ := hP
  have eT := eT.symm; subst eT
  have eM := eM.symm; subst eM
  refine lv_aload_n hx hb dL_law_313 rfl (lv_at hl 1 rfl) ?_
  refine goI hK hH (runV (As := []) (rest := [.int (-1)]) hC hK hH (c_X10_fault hc_mo hc_al hFi) mlL_32 (rcvM hK hH hc_mo rfl) ⟨⟨Nat.le_of_ble_eq_true rfl, Nat.le_of_ble_eq_true rfl⟩, Nat.le_of_ble_eq_true rfl, Nat.le_of_ble_eq_true rfl⟩ rfl hl.1 rfl (Nat.le_of_ble_eq_true rfl) dL_law_314) (fun rq6_ Mq4_ Tq5_ Hq_ lcq_ hP hz hH => ?_)
  try dsimp only at hP
  obtain ⟨(rfl), eT, eM⟩ := hP
  have eT := eT.symm; subst eT
  have eM := eM.symm; subst eM
  refine jic_eq (tgt := 1370) hx hb dL_law_317 (by decide) (fun cq7_ => ?_) (fun cq7_ => absurd cq7_ (by decide))
  exact law_tail C0 hAq hH.2.1 (lv_sub hl [0, 3] rfl) (Nat.le_of_ble_eq_true rfl) (Nat.le_of_ble_eq_true rfl)
set_option maxHeartbeats 4000000 in
set_option maxRecDepth 100000 in
theorem law_case_4 {p : Program} {e : Env} {s : State} {m : MethodId} {below : List Frame} {meth : Method} {c : Code} {l : Launch} {b : Nat} {xs : Nat → Int32} (C0 : lw_At p s m meth c b 6 xs) {D : va_G} {kA : Nat → ClassId} (hK : mK D kA s) {M : mM} {T : mT} {A : Nat → Prop} (hAq : ∀ q, A q → s.heap.size ≤ q) {Hq_ : Heap} {lcq_ : List Loc} {ls : Array Slot} {ro w im rd rc cu cs bs tp nb by_ vb mo al mt ii pa li : Nat} {F : Nat → Int32} (hc_ro : M ro = some (.inr (7, [.ref w, .ref im, .ref rd, .ref rc, .ref cu]))) (hc_w : M w = some (.inr (6, [.int 0, .int 2, .int 0, .int 0, .int 0, .int 0, .int 0, .int (-1), .ref cs, .ref bs, .ref tp]))) (hc_cs : M cs = some (.inl (kA 0, 8, .inl (c100 (fun _ => 0))))) (hc_im : M im = some (.inl (kA 6, 3, .inr (.inr (.inr (.inr (fun _ => none))))))) (hc_rd : M rd = some (.inr (3, [.ref nb, .ref vb, .int 0, .int 0, .ref by_, .int 0, .int 0, .int 0, .int 0, .int 0]))) (hc_mo : M mo = some (.inr (8, [.ref al, .ref mt, .ref ii, .int 0, .int (-1), .ref pa, .int 0, .int 0, .int 0, .int 0, .int 0, .long 0, .int 0, .ref li]))) (hc_al : M al = some (.inl (kA 0, 7506, .inl F))) (hc_ii : M ii = some (.inl (kA 2, 3, .inl (fun _ => 0)))) (ht_bs : T bs = some 6) (ht_tp : T tp = some 7) (ht_mt : T mt = some 11) (hFi : ∀ j, j < 1140 → F j = mIni j) (hH : mS D kA M T A s.heap Hq_ lcq_) (hl : lv_has ls 4 [(3, .int 0), (2, .ref mo), (1, .ref ro), (0, .ref b)]) : W p l e room_1 s m #[Value.ref b] below meth c Hq_ lcq_ 156 11688 (lw_Z below #[Value.ref b] s) (F0 m 322 ls []) := by
  obtain ⟨hx, hb, hr, hml, hown, hts, hX, hbl, hlocks, hgv⟩ := id C0
  have hC : CallFix p m c cL_law 4 s #[Value.ref b] TB RL := ⟨hx, hb, hml, hown, fun w h => hts w (TB_in h)⟩
  have hbA : ¬ A b := fun h => absurd (hAq b h) (Nat.not_le.mpr hbl)
  have n_ro_w : ro ≠ w := neM hc_ro hc_w (by simp)
  have n_ro_cs : ro ≠ cs := neM hc_ro hc_cs (by simp)
  have n_ro_im : ro ≠ im := neM hc_ro hc_im (by simp)
  have n_ro_rd : ro ≠ rd := neM hc_ro hc_rd (by simp)
  have n_ro_mo : ro ≠ mo := neM hc_ro hc_mo (by simp)
  have n_ro_al : ro ≠ al := neM hc_ro hc_al (by simp)
  have n_ro_ii : ro ≠ ii := neM hc_ro hc_ii (by simp)
  have n_w_ro : w ≠ ro := neM hc_w hc_ro (by simp)
  have n_w_cs : w ≠ cs := neM hc_w hc_cs (by simp)
  have n_w_im : w ≠ im := neM hc_w hc_im (by simp)
  have n_w_rd : w ≠ rd := neM hc_w hc_rd (by simp)
  have n_w_mo : w ≠ mo := neM hc_w hc_mo (by simp)
  have n_w_al : w ≠ al := neM hc_w hc_al (by simp)
  have n_w_ii : w ≠ ii := neM hc_w hc_ii (by simp)
  have n_cs_ro : cs ≠ ro := neM hc_cs hc_ro (by simp)
  have n_cs_w : cs ≠ w := neM hc_cs hc_w (by simp)
  have n_cs_im : cs ≠ im := neM hc_cs hc_im (by simp)
  have n_cs_rd : cs ≠ rd := neM hc_cs hc_rd (by simp)
  have n_cs_mo : cs ≠ mo := neM hc_cs hc_mo (by simp)
  have n_cs_al : cs ≠ al := neM hc_cs hc_al (by simp)
  have n_cs_ii : cs ≠ ii := neM hc_cs hc_ii (by simp)
  have n_im_ro : im ≠ ro := neM hc_im hc_ro (by simp)
  have n_im_w : im ≠ w := neM hc_im hc_w (by simp)
  have n_im_cs : im ≠ cs := neM hc_im hc_cs (by simp)
  have n_im_rd : im ≠ rd := neM hc_im hc_rd (by simp)
  have n_im_mo : im ≠ mo := neM hc_im hc_mo (by simp)
  have n_im_al : im ≠ al := neM hc_im hc_al (by simp)
  have n_im_ii : im ≠ ii := neM hc_im hc_ii (by simp)
  have n_rd_ro : rd ≠ ro := neM hc_rd hc_ro (by simp)
  have n_rd_w : rd ≠ w := neM hc_rd hc_w (by simp)
  have n_rd_cs : rd ≠ cs := neM hc_rd hc_cs (by simp)
  have n_rd_im : rd ≠ im := neM hc_rd hc_im (by simp)
  have n_rd_mo : rd ≠ mo := neM hc_rd hc_mo (by simp)
  have n_rd_al : rd ≠ al := neM hc_rd hc_al (by simp)
  have n_rd_ii : rd ≠ ii := neM hc_rd hc_ii (by simp)
  have n_mo_ro : mo ≠ ro := neM hc_mo hc_ro (by simp)
  have n_mo_w : mo ≠ w := neM hc_mo hc_w (by simp)
  have n_mo_cs : mo ≠ cs := neM hc_mo hc_cs (by simp)
  have n_mo_im : mo ≠ im := neM hc_mo hc_im (by simp)
  have n_mo_rd : mo ≠ rd := neM hc_mo hc_rd (by simp)
  have n_mo_al : mo ≠ al := neM hc_mo hc_al (by simp)
  have n_mo_ii : mo ≠ ii := neM hc_mo hc_ii (by simp)
  have n_al_ro : al ≠ ro := neM hc_al hc_ro (by simp)
  have n_al_w : al ≠ w := neM hc_al hc_w (by simp)
  have n_al_cs : al ≠ cs := neM hc_al hc_cs (by simp)
  have n_al_im : al ≠ im := neM hc_al hc_im (by simp)
  have n_al_rd : al ≠ rd := neM hc_al hc_rd (by simp)
  have n_al_mo : al ≠ mo := neM hc_al hc_mo (by simp)
  have n_al_ii : al ≠ ii := neM hc_al hc_ii (by simp)
  have n_ii_ro : ii ≠ ro := neM hc_ii hc_ro (by simp)
  have n_ii_w : ii ≠ w := neM hc_ii hc_w (by simp)
  have n_ii_cs : ii ≠ cs := neM hc_ii hc_cs (by simp)
  have n_ii_im : ii ≠ im := neM hc_ii hc_im (by simp)
  have n_ii_rd : ii ≠ rd := neM hc_ii hc_rd (by simp)
  have n_ii_mo : ii ≠ mo := neM hc_ii hc_mo (by simp)
  have n_ii_al : ii ≠ al := neM hc_ii hc_al (by simp)
  refine lv_aload_n hx hb dL_law_322 rfl (lv_at hl 2 rfl) ?_
  refine goI hK hH (runV (As := []) (rest := []) hC hK hH (c_X9_refused hc_ro hc_w) mlL_33 (rcvM hK hH hc_ro rfl) ⟨⟨Nat.le_of_ble_eq_true rfl, Nat.le_of_ble_eq_true rfl⟩, Nat.le_of_ble_eq_true rfl, Nat.le_of_ble_eq_true rfl⟩ rfl hl.1 rfl (Nat.le_of_ble_eq_true rfl) dL_law_323) (fun rq3_ Mq1_ Tq2_ Hq_ lcq_ hP hz hH => ?_)
  try dsimp only at hP
  obtain ⟨(rfl), eT, eM⟩ := hP
  have eT := eT.symm; subst eT
  have eM := eM.symm; subst eM
  refine lv_aload_n hx hb dL_law_326 rfl (lv_at hl 1 rfl) ?_
  refine goI hK hH (runV (As := []) (rest := [.int 0]) hC hK hH (c_X10_refused hc_mo hc_al hFi) mlL_36 (rcvM hK hH hc_mo rfl) ⟨⟨Nat.le_of_ble_eq_true rfl, Nat.le_of_ble_eq_true rfl⟩, Nat.le_of_ble_eq_true rfl, Nat.le_of_ble_eq_true rfl⟩ rfl hl.1 rfl (Nat.le_of_ble_eq_true rfl) dL_law_327) (fun rq6_ Mq4_ Tq5_ Hq_ lcq_ hP hz hH => ?_)
  try dsimp only at hP
  obtain ⟨(rfl), eT, eM⟩ := hP
  have eT := eT.symm; subst eT
  have eM := eM.symm; subst eM
  refine jic_eq (tgt := 1370) hx hb dL_law_330 (by decide) (fun cq7_ => ?_) (fun cq7_ => absurd cq7_ (by decide))
  exact law_tail C0 hAq hH.2.1 (lv_sub hl [0, 3] rfl) (Nat.le_of_ble_eq_true rfl) (Nat.le_of_ble_eq_true rfl)
set_option maxHeartbeats 4000000 in
set_option maxRecDepth 100000 in
theorem law_case_5 {p : Program} {e : Env} {s : State} {m : MethodId} {below : List Frame} {meth : Method} {c : Code} {l : Launch} {b : Nat} {xs : Nat → Int32} (C0 : lw_At p s m meth c b 6 xs) {D : va_G} {kA : Nat → ClassId} (hK : mK D kA s) {M : mM} {T : mT} {A : Nat → Prop} (hAq : ∀ q, A q → s.heap.size ≤ q) {Hq_ : Heap} {lcq_ : List Loc} {ls : Array Slot} {ro w im rd rc cu cs bs tp nb by_ vb mo al mt ii pa li : Nat} {F : Nat → Int32} (hc_ro : M ro = some (.inr (7, [.ref w, .ref im, .ref rd, .ref rc, .ref cu]))) (hc_w : M w = some (.inr (6, [.int 0, .int 2, .int 0, .int 0, .int 0, .int 0, .int 0, .int (-1), .ref cs, .ref bs, .ref tp]))) (hc_cs : M cs = some (.inl (kA 0, 8, .inl (c100 (fun _ => 0))))) (hc_im : M im = some (.inl (kA 6, 3, .inr (.inr (.inr (.inr (fun _ => none))))))) (hc_rd : M rd = some (.inr (3, [.ref nb, .ref vb, .int 0, .int 0, .ref by_, .int 0, .int 0, .int 0, .int 0, .int 0]))) (hc_mo : M mo = some (.inr (8, [.ref al, .ref mt, .ref ii, .int 0, .int (-1), .ref pa, .int 0, .int 0, .int 0, .int 0, .int 0, .long 0, .int 0, .ref li]))) (hc_al : M al = some (.inl (kA 0, 7506, .inl F))) (hc_ii : M ii = some (.inl (kA 2, 3, .inl (fun _ => 0)))) (ht_bs : T bs = some 6) (ht_tp : T tp = some 7) (ht_mt : T mt = some 11) (hFi : ∀ j, j < 1140 → F j = mIni j) (hH : mS D kA M T A s.heap Hq_ lcq_) (hl : lv_has ls 4 [(3, .int 0), (2, .ref mo), (1, .ref ro), (0, .ref b)]) : W p l e room_1 s m #[Value.ref b] below meth c Hq_ lcq_ 156 11688 (lw_Z below #[Value.ref b] s) (F0 m 335 ls []) := by
  obtain ⟨hx, hb, hr, hml, hown, hts, hX, hbl, hlocks, hgv⟩ := id C0
  have hC : CallFix p m c cL_law 4 s #[Value.ref b] TB RL := ⟨hx, hb, hml, hown, fun w h => hts w (TB_in h)⟩
  have hbA : ¬ A b := fun h => absurd (hAq b h) (Nat.not_le.mpr hbl)
  have n_ro_w : ro ≠ w := neM hc_ro hc_w (by simp)
  have n_ro_cs : ro ≠ cs := neM hc_ro hc_cs (by simp)
  have n_ro_im : ro ≠ im := neM hc_ro hc_im (by simp)
  have n_ro_rd : ro ≠ rd := neM hc_ro hc_rd (by simp)
  have n_ro_mo : ro ≠ mo := neM hc_ro hc_mo (by simp)
  have n_ro_al : ro ≠ al := neM hc_ro hc_al (by simp)
  have n_ro_ii : ro ≠ ii := neM hc_ro hc_ii (by simp)
  have n_w_ro : w ≠ ro := neM hc_w hc_ro (by simp)
  have n_w_cs : w ≠ cs := neM hc_w hc_cs (by simp)
  have n_w_im : w ≠ im := neM hc_w hc_im (by simp)
  have n_w_rd : w ≠ rd := neM hc_w hc_rd (by simp)
  have n_w_mo : w ≠ mo := neM hc_w hc_mo (by simp)
  have n_w_al : w ≠ al := neM hc_w hc_al (by simp)
  have n_w_ii : w ≠ ii := neM hc_w hc_ii (by simp)
  have n_cs_ro : cs ≠ ro := neM hc_cs hc_ro (by simp)
  have n_cs_w : cs ≠ w := neM hc_cs hc_w (by simp)
  have n_cs_im : cs ≠ im := neM hc_cs hc_im (by simp)
  have n_cs_rd : cs ≠ rd := neM hc_cs hc_rd (by simp)
  have n_cs_mo : cs ≠ mo := neM hc_cs hc_mo (by simp)
  have n_cs_al : cs ≠ al := neM hc_cs hc_al (by simp)
  have n_cs_ii : cs ≠ ii := neM hc_cs hc_ii (by simp)
  have n_im_ro : im ≠ ro := neM hc_im hc_ro (by simp)
  have n_im_w : im ≠ w := neM hc_im hc_w (by simp)
  have n_im_cs : im ≠ cs := neM hc_im hc_cs (by simp)
  have n_im_rd : im ≠ rd := neM hc_im hc_rd (by simp)
  have n_im_mo : im ≠ mo := neM hc_im hc_mo (by simp)
  have n_im_al : im ≠ al := neM hc_im hc_al (by simp)
  have n_im_ii : im ≠ ii := neM hc_im hc_ii (by simp)
  have n_rd_ro : rd ≠ ro := neM hc_rd hc_ro (by simp)
  have n_rd_w : rd ≠ w := neM hc_rd hc_w (by simp)
  have n_rd_cs : rd ≠ cs := neM hc_rd hc_cs (by simp)
  have n_rd_im : rd ≠ im := neM hc_rd hc_im (by simp)
  have n_rd_mo : rd ≠ mo := neM hc_rd hc_mo (by simp)
  have n_rd_al : rd ≠ al := neM hc_rd hc_al (by simp)
  have n_rd_ii : rd ≠ ii := neM hc_rd hc_ii (by simp)
  have n_mo_ro : mo ≠ ro := neM hc_mo hc_ro (by simp)
  have n_mo_w : mo ≠ w := neM hc_mo hc_w (by simp)
  have n_mo_cs : mo ≠ cs := neM hc_mo hc_cs (by simp)
  have n_mo_im : mo ≠ im := neM hc_mo hc_im (by simp)
  have n_mo_rd : mo ≠ rd := neM hc_mo hc_rd (by simp)
  have n_mo_al : mo ≠ al := neM hc_mo hc_al (by simp)
  have n_mo_ii : mo ≠ ii := neM hc_mo hc_ii (by simp)
  have n_al_ro : al ≠ ro := neM hc_al hc_ro (by simp)
  have n_al_w : al ≠ w := neM hc_al hc_w (by simp)
  have n_al_cs : al ≠ cs := neM hc_al hc_cs (by simp)
  have n_al_im : al ≠ im := neM hc_al hc_im (by simp)
  have n_al_rd : al ≠ rd := neM hc_al hc_rd (by simp)
  have n_al_mo : al ≠ mo := neM hc_al hc_mo (by simp)
  have n_al_ii : al ≠ ii := neM hc_al hc_ii (by simp)
  have n_ii_ro : ii ≠ ro := neM hc_ii hc_ro (by simp)
  have n_ii_w : ii ≠ w := neM hc_ii hc_w (by simp)
  have n_ii_cs : ii ≠ cs := neM hc_ii hc_cs (by simp)
  have n_ii_im : ii ≠ im := neM hc_ii hc_im (by simp)
  have n_ii_rd : ii ≠ rd := neM hc_ii hc_rd (by simp)
  have n_ii_mo : ii ≠ mo := neM hc_ii hc_mo (by simp)
  have n_ii_al : ii ≠ al := neM hc_ii hc_al (by simp)
  refine lv_aload_n hx hb dL_law_335 rfl (lv_at hl 2 rfl) ?_
  refine lv_aload_n hx hb dL_law_336 rfl (lv_at hl 3 rfl) ?_
  refine lv_iload_n hx hb dL_law_337 rfl (lv_at hl 0 rfl) ?_
  refine lv_iconst (v := 1) hx hb dL_law_338 (by decide) ?_
  refine lv_iadd hx hb dL_law_339 ?_
  refine lv_cst (v := 1) (by decide) ?_
  refine va_sld hx hb hX hbl hbA hH.2.1 (iIn (by decide) (by decide)) dL_law_340 ?_
  refine lv_topi (fun vq1_ e_vq1_ => ?_)
  refine goI hK hH (runV (As := [.int vq1_]) (rest := []) hC hK hH (c_X9_day hc_ro hc_w) mlL_37 (rcvM hK hH hc_ro rfl) ⟨⟨Nat.le_of_ble_eq_true rfl, Nat.le_of_ble_eq_true rfl⟩, Nat.le_of_ble_eq_true rfl, Nat.le_of_ble_eq_true rfl⟩ rfl hl.1 rfl (Nat.le_of_ble_eq_true rfl) dL_law_341) (fun rq4_ Mq2_ Tq3_ Hq_ lcq_ hP hz hH => ?_)
  try dsimp only at hP
  obtain ⟨(⟨cq5_, rfl⟩ | ⟨cq6_, rfl⟩), eT, hfr⟩ := hP
  · skip
    have eT := eT.symm; subst eT
    have hc_ro : Mq2_ ro = some (.inr (7, [.ref w, .ref im, .ref rd, .ref rc, .ref cu])) := (hfr ro n_ro_w).trans hc_ro
    have hc_cs : Mq2_ cs = some (.inl (kA 0, 8, .inl (c100 (fun _ => 0)))) := (hfr cs n_cs_w).trans hc_cs
    have hc_im : Mq2_ im = some (.inl (kA 6, 3, .inr (.inr (.inr (.inr (fun _ => none)))))) := (hfr im n_im_w).trans hc_im
    have hc_rd : Mq2_ rd = some (.inr (3, [.ref nb, .ref vb, .int 0, .int 0, .ref by_, .int 0, .int 0, .int 0, .int 0, .int 0])) := (hfr rd n_rd_w).trans hc_rd
    have hc_mo : Mq2_ mo = some (.inr (8, [.ref al, .ref mt, .ref ii, .int 0, .int (-1), .ref pa, .int 0, .int 0, .int 0, .int 0, .int 0, .long 0, .int 0, .ref li])) := (hfr mo n_mo_w).trans hc_mo
    have hc_al : Mq2_ al = some (.inl (kA 0, 7506, .inl F)) := (hfr al n_al_w).trans hc_al
    have hc_ii : Mq2_ ii = some (.inl (kA 2, 3, .inl (fun _ => 0))) := (hfr ii n_ii_w).trans hc_ii
    have cq5_ : 1 ≤ vq1_.toInt ∧ vq1_.toInt ≤ 99 := cq5_
    refine lv_aload_n hx hb dL_law_344 rfl (lv_at hl 1 rfl) ?_
    refine lv_aload_n hx hb dL_law_345 rfl (lv_at hl 3 rfl) ?_
    refine lv_iload_n hx hb dL_law_346 rfl (lv_at hl 0 rfl) ?_
    refine lv_iconst (v := 1) hx hb dL_law_347 (by decide) ?_
    refine lv_iadd hx hb dL_law_348 ?_
    refine lv_cst (v := 1) (by decide) ?_
    refine va_sld hx hb hX hbl hbA hH.2.1 (iIn (by decide) (by decide)) dL_law_349 ?_
    refine lv_cst (v := vq1_) e_vq1_.symm ?_
    refine goI hK hH (runV (As := [.int vq1_]) (rest := [.int 0]) hC hK hH (c_X10_day hc_mo hc_al hFi) mlL_40 (rcvM hK hH hc_mo rfl) ⟨⟨Nat.le_of_ble_eq_true rfl, Nat.le_of_ble_eq_true rfl⟩, Nat.le_of_ble_eq_true rfl, Nat.le_of_ble_eq_true rfl⟩ rfl hl.1 rfl (Nat.le_of_ble_eq_true rfl) dL_law_350) (fun rq9_ Mq7_ Tq8_ Hq_ lcq_ hP hz hH => ?_)
    try dsimp only at hP
    obtain ⟨(⟨cq10_, rfl⟩ | ⟨cq11_, rfl⟩), eT, hfr⟩ := hP
    · skip
      have eT := eT.symm; subst eT
      have hc_ro : Mq7_ ro = some (.inr (7, [.ref w, .ref im, .ref rd, .ref rc, .ref cu])) := (hfr ro n_ro_al).trans hc_ro
      have hc_cs : Mq7_ cs = some (.inl (kA 0, 8, .inl (c100 (fun _ => 0)))) := (hfr cs n_cs_al).trans hc_cs
      have hc_im : Mq7_ im = some (.inl (kA 6, 3, .inr (.inr (.inr (.inr (fun _ => none)))))) := (hfr im n_im_al).trans hc_im
      have hc_rd : Mq7_ rd = some (.inr (3, [.ref nb, .ref vb, .int 0, .int 0, .ref by_, .int 0, .int 0, .int 0, .int 0, .int 0])) := (hfr rd n_rd_al).trans hc_rd
      have hc_mo : Mq7_ mo = some (.inr (8, [.ref al, .ref mt, .ref ii, .int 0, .int (-1), .ref pa, .int 0, .int 0, .int 0, .int 0, .int 0, .long 0, .int 0, .ref li])) := (hfr mo n_mo_al).trans hc_mo
      have hc_ii : Mq7_ ii = some (.inl (kA 2, 3, .inl (fun _ => 0))) := (hfr ii n_ii_al).trans hc_ii
      have cq10_ : 1 ≤ vq1_.toInt ∧ vq1_.toInt ≤ 99 := cq10_
      refine jic_eq (tgt := 1370) hx hb dL_law_353 (by decide) (fun cq12_ => ?_) (fun cq12_ => absurd cq12_ (by decide))
      exact law_tail C0 hAq hH.2.1 (lv_sub hl [0, 3] rfl) (Nat.le_of_ble_eq_true rfl) (Nat.le_of_ble_eq_true rfl)
    · skip
      have eT := eT.symm; subst eT
      have hc_ro : Mq7_ ro = some (.inr (7, [.ref w, .ref im, .ref rd, .ref rc, .ref cu])) := (hfr ro n_ro_al).trans hc_ro
      have hc_cs : Mq7_ cs = some (.inl (kA 0, 8, .inl (c100 (fun _ => 0)))) := (hfr cs n_cs_al).trans hc_cs
      have hc_im : Mq7_ im = some (.inl (kA 6, 3, .inr (.inr (.inr (.inr (fun _ => none)))))) := (hfr im n_im_al).trans hc_im
      have hc_rd : Mq7_ rd = some (.inr (3, [.ref nb, .ref vb, .int 0, .int 0, .ref by_, .int 0, .int 0, .int 0, .int 0, .int 0])) := (hfr rd n_rd_al).trans hc_rd
      have hc_mo : Mq7_ mo = some (.inr (8, [.ref al, .ref mt, .ref ii, .int 0, .int (-1), .ref pa, .int 0, .int 0, .int 0, .int 0, .int 0, .long 0, .int 0, .ref li])) := (hfr mo n_mo_al).trans hc_mo
      have hc_ii : Mq7_ ii = some (.inl (kA 2, 3, .inl (fun _ => 0))) := (hfr ii n_ii_al).trans hc_ii
      have cq11_ : ¬ (1 ≤ vq1_.toInt ∧ vq1_.toInt ≤ 99) := cq11_
      exfalso; omega
  · skip
    have eT := eT.symm; subst eT
    have hc_ro : Mq2_ ro = some (.inr (7, [.ref w, .ref im, .ref rd, .ref rc, .ref cu])) := (hfr ro n_ro_w).trans hc_ro
    have hc_cs : Mq2_ cs = some (.inl (kA 0, 8, .inl (c100 (fun _ => 0)))) := (hfr cs n_cs_w).trans hc_cs
    have hc_im : Mq2_ im = some (.inl (kA 6, 3, .inr (.inr (.inr (.inr (fun _ => none)))))) := (hfr im n_im_w).trans hc_im
    have hc_rd : Mq2_ rd = some (.inr (3, [.ref nb, .ref vb, .int 0, .int 0, .ref by_, .int 0, .int 0, .int 0, .int 0, .int 0])) := (hfr rd n_rd_w).trans hc_rd
    have hc_mo : Mq2_ mo = some (.inr (8, [.ref al, .ref mt, .ref ii, .int 0, .int (-1), .ref pa, .int 0, .int 0, .int 0, .int 0, .int 0, .long 0, .int 0, .ref li])) := (hfr mo n_mo_w).trans hc_mo
    have hc_al : Mq2_ al = some (.inl (kA 0, 7506, .inl F)) := (hfr al n_al_w).trans hc_al
    have hc_ii : Mq2_ ii = some (.inl (kA 2, 3, .inl (fun _ => 0))) := (hfr ii n_ii_w).trans hc_ii
    have cq6_ : ¬ (1 ≤ vq1_.toInt ∧ vq1_.toInt ≤ 99) := cq6_
    refine lv_aload_n hx hb dL_law_344 rfl (lv_at hl 1 rfl) ?_
    refine lv_aload_n hx hb dL_law_345 rfl (lv_at hl 3 rfl) ?_
    refine lv_iload_n hx hb dL_law_346 rfl (lv_at hl 0 rfl) ?_
    refine lv_iconst (v := 1) hx hb dL_law_347 (by decide) ?_
    refine lv_iadd hx hb dL_law_348 ?_
    refine lv_cst (v := 1) (by decide) ?_
    refine va_sld hx hb hX hbl hbA hH.2.1 (iIn (by decide) (by decide)) dL_law_349 ?_
    refine lv_cst (v := vq1_) e_vq1_.symm ?_
    refine goI hK hH (runV (As := [.int vq1_]) (rest := [.int 30]) hC hK hH (c_X10_day hc_mo hc_al hFi) mlL_40 (rcvM hK hH hc_mo rfl) ⟨⟨Nat.le_of_ble_eq_true rfl, Nat.le_of_ble_eq_true rfl⟩, Nat.le_of_ble_eq_true rfl, Nat.le_of_ble_eq_true rfl⟩ rfl hl.1 rfl (Nat.le_of_ble_eq_true rfl) dL_law_350) (fun rq15_ Mq13_ Tq14_ Hq_ lcq_ hP hz hH => ?_)
    try dsimp only at hP
    obtain ⟨(⟨cq16_, rfl⟩ | ⟨cq17_, rfl⟩), eT, hfr⟩ := hP
    · skip
      have eT := eT.symm; subst eT
      have hc_ro : Mq13_ ro = some (.inr (7, [.ref w, .ref im, .ref rd, .ref rc, .ref cu])) := (hfr ro n_ro_al).trans hc_ro
      have hc_cs : Mq13_ cs = some (.inl (kA 0, 8, .inl (c100 (fun _ => 0)))) := (hfr cs n_cs_al).trans hc_cs
      have hc_im : Mq13_ im = some (.inl (kA 6, 3, .inr (.inr (.inr (.inr (fun _ => none)))))) := (hfr im n_im_al).trans hc_im
      have hc_rd : Mq13_ rd = some (.inr (3, [.ref nb, .ref vb, .int 0, .int 0, .ref by_, .int 0, .int 0, .int 0, .int 0, .int 0])) := (hfr rd n_rd_al).trans hc_rd
      have hc_mo : Mq13_ mo = some (.inr (8, [.ref al, .ref mt, .ref ii, .int 0, .int (-1), .ref pa, .int 0, .int 0, .int 0, .int 0, .int 0, .long 0, .int 0, .ref li])) := (hfr mo n_mo_al).trans hc_mo
      have hc_ii : Mq13_ ii = some (.inl (kA 2, 3, .inl (fun _ => 0))) := (hfr ii n_ii_al).trans hc_ii
      have cq16_ : 1 ≤ vq1_.toInt ∧ vq1_.toInt ≤ 99 := cq16_
      exfalso; omega
    · skip
      have eT := eT.symm; subst eT
      have hc_ro : Mq13_ ro = some (.inr (7, [.ref w, .ref im, .ref rd, .ref rc, .ref cu])) := (hfr ro n_ro_al).trans hc_ro
      have hc_cs : Mq13_ cs = some (.inl (kA 0, 8, .inl (c100 (fun _ => 0)))) := (hfr cs n_cs_al).trans hc_cs
      have hc_im : Mq13_ im = some (.inl (kA 6, 3, .inr (.inr (.inr (.inr (fun _ => none)))))) := (hfr im n_im_al).trans hc_im
      have hc_rd : Mq13_ rd = some (.inr (3, [.ref nb, .ref vb, .int 0, .int 0, .ref by_, .int 0, .int 0, .int 0, .int 0, .int 0])) := (hfr rd n_rd_al).trans hc_rd
      have hc_mo : Mq13_ mo = some (.inr (8, [.ref al, .ref mt, .ref ii, .int 0, .int (-1), .ref pa, .int 0, .int 0, .int 0, .int 0, .int 0, .long 0, .int 0, .ref li])) := (hfr mo n_mo_al).trans hc_mo
      have hc_ii : Mq13_ ii = some (.inl (kA 2, 3, .inl (fun _ => 0))) := (hfr ii n_ii_al).trans hc_ii
      have cq17_ : ¬ (1 ≤ vq1_.toInt ∧ vq1_.toInt ≤ 99) := cq17_
      refine jic_eq (tgt := 1370) hx hb dL_law_353 (by decide) (fun cq18_ => ?_) (fun cq18_ => absurd cq18_ (by decide))
      exact law_tail C0 hAq hH.2.1 (lv_sub hl [0, 3] rfl) (Nat.le_of_ble_eq_true rfl) (Nat.le_of_ble_eq_true rfl)
set_option maxHeartbeats 4000000 in
set_option maxRecDepth 100000 in
theorem law_case_6 {p : Program} {e : Env} {s : State} {m : MethodId} {below : List Frame} {meth : Method} {c : Code} {l : Launch} {b : Nat} {xs : Nat → Int32} (C0 : lw_At p s m meth c b 6 xs) {D : va_G} {kA : Nat → ClassId} (hK : mK D kA s) {M : mM} {T : mT} {A : Nat → Prop} (hAq : ∀ q, A q → s.heap.size ≤ q) {Hq_ : Heap} {lcq_ : List Loc} {ls : Array Slot} {ro w im rd rc cu cs bs tp nb by_ vb mo al mt ii pa li : Nat} {F : Nat → Int32} (hc_ro : M ro = some (.inr (7, [.ref w, .ref im, .ref rd, .ref rc, .ref cu]))) (hc_w : M w = some (.inr (6, [.int 0, .int 2, .int 0, .int 0, .int 0, .int 0, .int 0, .int (-1), .ref cs, .ref bs, .ref tp]))) (hc_cs : M cs = some (.inl (kA 0, 8, .inl (c100 (fun _ => 0))))) (hc_im : M im = some (.inl (kA 6, 3, .inr (.inr (.inr (.inr (fun _ => none))))))) (hc_rd : M rd = some (.inr (3, [.ref nb, .ref vb, .int 0, .int 0, .ref by_, .int 0, .int 0, .int 0, .int 0, .int 0]))) (hc_mo : M mo = some (.inr (8, [.ref al, .ref mt, .ref ii, .int 0, .int (-1), .ref pa, .int 0, .int 0, .int 0, .int 0, .int 0, .long 0, .int 0, .ref li]))) (hc_al : M al = some (.inl (kA 0, 7506, .inl F))) (hc_ii : M ii = some (.inl (kA 2, 3, .inl (fun _ => 0)))) (ht_bs : T bs = some 6) (ht_tp : T tp = some 7) (ht_mt : T mt = some 11) (hFi : ∀ j, j < 1140 → F j = mIni j) (hH : mS D kA M T A s.heap Hq_ lcq_) (hl : lv_has ls 4 [(3, .int 0), (2, .ref mo), (1, .ref ro), (0, .ref b)]) : W p l e room_1 s m #[Value.ref b] below meth c Hq_ lcq_ 156 11688 (lw_Z below #[Value.ref b] s) (F0 m 358 ls []) := by
  obtain ⟨hx, hb, hr, hml, hown, hts, hX, hbl, hlocks, hgv⟩ := id C0
  have hC : CallFix p m c cL_law 4 s #[Value.ref b] TB RL := ⟨hx, hb, hml, hown, fun w h => hts w (TB_in h)⟩
  have hbA : ¬ A b := fun h => absurd (hAq b h) (Nat.not_le.mpr hbl)
  have n_ro_w : ro ≠ w := neM hc_ro hc_w (by simp)
  have n_ro_cs : ro ≠ cs := neM hc_ro hc_cs (by simp)
  have n_ro_im : ro ≠ im := neM hc_ro hc_im (by simp)
  have n_ro_rd : ro ≠ rd := neM hc_ro hc_rd (by simp)
  have n_ro_mo : ro ≠ mo := neM hc_ro hc_mo (by simp)
  have n_ro_al : ro ≠ al := neM hc_ro hc_al (by simp)
  have n_ro_ii : ro ≠ ii := neM hc_ro hc_ii (by simp)
  have n_w_ro : w ≠ ro := neM hc_w hc_ro (by simp)
  have n_w_cs : w ≠ cs := neM hc_w hc_cs (by simp)
  have n_w_im : w ≠ im := neM hc_w hc_im (by simp)
  have n_w_rd : w ≠ rd := neM hc_w hc_rd (by simp)
  have n_w_mo : w ≠ mo := neM hc_w hc_mo (by simp)
  have n_w_al : w ≠ al := neM hc_w hc_al (by simp)
  have n_w_ii : w ≠ ii := neM hc_w hc_ii (by simp)
  have n_cs_ro : cs ≠ ro := neM hc_cs hc_ro (by simp)
  have n_cs_w : cs ≠ w := neM hc_cs hc_w (by simp)
  have n_cs_im : cs ≠ im := neM hc_cs hc_im (by simp)
  have n_cs_rd : cs ≠ rd := neM hc_cs hc_rd (by simp)
  have n_cs_mo : cs ≠ mo := neM hc_cs hc_mo (by simp)
  have n_cs_al : cs ≠ al := neM hc_cs hc_al (by simp)
  have n_cs_ii : cs ≠ ii := neM hc_cs hc_ii (by simp)
  have n_im_ro : im ≠ ro := neM hc_im hc_ro (by simp)
  have n_im_w : im ≠ w := neM hc_im hc_w (by simp)
  have n_im_cs : im ≠ cs := neM hc_im hc_cs (by simp)
  have n_im_rd : im ≠ rd := neM hc_im hc_rd (by simp)
  have n_im_mo : im ≠ mo := neM hc_im hc_mo (by simp)
  have n_im_al : im ≠ al := neM hc_im hc_al (by simp)
  have n_im_ii : im ≠ ii := neM hc_im hc_ii (by simp)
  have n_rd_ro : rd ≠ ro := neM hc_rd hc_ro (by simp)
  have n_rd_w : rd ≠ w := neM hc_rd hc_w (by simp)
  have n_rd_cs : rd ≠ cs := neM hc_rd hc_cs (by simp)
  have n_rd_im : rd ≠ im := neM hc_rd hc_im (by simp)
  have n_rd_mo : rd ≠ mo := neM hc_rd hc_mo (by simp)
  have n_rd_al : rd ≠ al := neM hc_rd hc_al (by simp)
  have n_rd_ii : rd ≠ ii := neM hc_rd hc_ii (by simp)
  have n_mo_ro : mo ≠ ro := neM hc_mo hc_ro (by simp)
  have n_mo_w : mo ≠ w := neM hc_mo hc_w (by simp)
  have n_mo_cs : mo ≠ cs := neM hc_mo hc_cs (by simp)
  have n_mo_im : mo ≠ im := neM hc_mo hc_im (by simp)
  have n_mo_rd : mo ≠ rd := neM hc_mo hc_rd (by simp)
  have n_mo_al : mo ≠ al := neM hc_mo hc_al (by simp)
  have n_mo_ii : mo ≠ ii := neM hc_mo hc_ii (by simp)
  have n_al_ro : al ≠ ro := neM hc_al hc_ro (by simp)
  have n_al_w : al ≠ w := neM hc_al hc_w (by simp)
  have n_al_cs : al ≠ cs := neM hc_al hc_cs (by simp)
  have n_al_im : al ≠ im := neM hc_al hc_im (by simp)
  have n_al_rd : al ≠ rd := neM hc_al hc_rd (by simp)
  have n_al_mo : al ≠ mo := neM hc_al hc_mo (by simp)
  have n_al_ii : al ≠ ii := neM hc_al hc_ii (by simp)
  have n_ii_ro : ii ≠ ro := neM hc_ii hc_ro (by simp)
  have n_ii_w : ii ≠ w := neM hc_ii hc_w (by simp)
  have n_ii_cs : ii ≠ cs := neM hc_ii hc_cs (by simp)
  have n_ii_im : ii ≠ im := neM hc_ii hc_im (by simp)
  have n_ii_rd : ii ≠ rd := neM hc_ii hc_rd (by simp)
  have n_ii_mo : ii ≠ mo := neM hc_ii hc_mo (by simp)
  have n_ii_al : ii ≠ al := neM hc_ii hc_al (by simp)
  refine lv_aload_n hx hb dL_law_358 rfl (lv_at hl 2 rfl) ?_
  refine lv_aload_n hx hb dL_law_359 rfl (lv_at hl 3 rfl) ?_
  refine lv_iload_n hx hb dL_law_360 rfl (lv_at hl 0 rfl) ?_
  refine lv_iconst (v := 1) hx hb dL_law_361 (by decide) ?_
  refine lv_iadd hx hb dL_law_362 ?_
  refine lv_cst (v := 1) (by decide) ?_
  refine va_sld hx hb hX hbl hbA hH.2.1 (iIn (by decide) (by decide)) dL_law_363 ?_
  refine lv_topi (fun vq1_ e_vq1_ => ?_)
  refine lv_aload_n hx hb dL_law_364 rfl (lv_at hl 3 rfl) ?_
  refine lv_iload_n hx hb dL_law_365 rfl (lv_at hl 0 rfl) ?_
  refine lv_iconst (v := 2) hx hb dL_law_366 (by decide) ?_
  refine lv_iadd hx hb dL_law_367 ?_
  refine lv_cst (v := 2) (by decide) ?_
  refine va_sld hx hb hX hbl hbA hH.2.1 (iIn (by decide) (by decide)) dL_law_368 ?_
  refine lv_topi (fun vq2_ e_vq2_ => ?_)
  refine goI hK hH (runV (As := [.int vq1_, .int vq2_]) (rest := []) hC hK hH (c_X9_cash hc_ro hc_w hc_cs) mlL_41 (rcvM hK hH hc_ro rfl) ⟨⟨Nat.le_of_ble_eq_true rfl, Nat.le_of_ble_eq_true rfl⟩, Nat.le_of_ble_eq_true rfl, Nat.le_of_ble_eq_true rfl⟩ rfl hl.1 rfl (Nat.le_of_ble_eq_true rfl) dL_law_369) (fun rq5_ Mq3_ Tq4_ Hq_ lcq_ hP hz hH => ?_)
  try dsimp only at hP
  obtain ⟨(⟨cq6_, rfl⟩ | ⟨cq7_, rfl⟩), eT, hfr⟩ := hP
  · skip
    have eT := eT.symm; subst eT
    have hc_ro : Mq3_ ro = some (.inr (7, [.ref w, .ref im, .ref rd, .ref rc, .ref cu])) := (hfr ro n_ro_w n_ro_cs).trans hc_ro
    have hc_im : Mq3_ im = some (.inl (kA 6, 3, .inr (.inr (.inr (.inr (fun _ => none)))))) := (hfr im n_im_w n_im_cs).trans hc_im
    have hc_rd : Mq3_ rd = some (.inr (3, [.ref nb, .ref vb, .int 0, .int 0, .ref by_, .int 0, .int 0, .int 0, .int 0, .int 0])) := (hfr rd n_rd_w n_rd_cs).trans hc_rd
    have hc_mo : Mq3_ mo = some (.inr (8, [.ref al, .ref mt, .ref ii, .int 0, .int (-1), .ref pa, .int 0, .int 0, .int 0, .int 0, .int 0, .long 0, .int 0, .ref li])) := (hfr mo n_mo_w n_mo_cs).trans hc_mo
    have hc_al : Mq3_ al = some (.inl (kA 0, 7506, .inl F)) := (hfr al n_al_w n_al_cs).trans hc_al
    have hc_ii : Mq3_ ii = some (.inl (kA 2, 3, .inl (fun _ => 0))) := (hfr ii n_ii_w n_ii_cs).trans hc_ii
    have cq6_ : 0 ≤ vq1_.toInt ∧ vq1_.toInt ≤ 7 ∧ 0 ≤ vq2_.toInt ∧ vq2_.toInt ≤ 9999 := cq6_
    refine lv_aload_n hx hb dL_law_372 rfl (lv_at hl 1 rfl) ?_
    refine lv_aload_n hx hb dL_law_373 rfl (lv_at hl 3 rfl) ?_
    refine lv_iload_n hx hb dL_law_374 rfl (lv_at hl 0 rfl) ?_
    refine lv_iconst (v := 1) hx hb dL_law_375 (by decide) ?_
    refine lv_iadd hx hb dL_law_376 ?_
    refine lv_cst (v := 1) (by decide) ?_
    refine va_sld hx hb hX hbl hbA hH.2.1 (iIn (by decide) (by decide)) dL_law_377 ?_
    refine lv_cst (v := vq1_) e_vq1_.symm ?_
    refine lv_aload_n hx hb dL_law_378 rfl (lv_at hl 3 rfl) ?_
    refine lv_iload_n hx hb dL_law_379 rfl (lv_at hl 0 rfl) ?_
    refine lv_iconst (v := 2) hx hb dL_law_380 (by decide) ?_
    refine lv_iadd hx hb dL_law_381 ?_
    refine lv_cst (v := 2) (by decide) ?_
    refine va_sld hx hb hX hbl hbA hH.2.1 (iIn (by decide) (by decide)) dL_law_382 ?_
    refine lv_cst (v := vq2_) e_vq2_.symm ?_
    refine goI hK hH (runV (As := [.int vq1_, .int vq2_]) (rest := [.int 0]) hC hK hH (c_X10_cash hc_mo hc_al hFi) mlL_45 (rcvM hK hH hc_mo rfl) ⟨⟨Nat.le_of_ble_eq_true rfl, Nat.le_of_ble_eq_true rfl⟩, Nat.le_of_ble_eq_true rfl, Nat.le_of_ble_eq_true rfl⟩ rfl hl.1 rfl (Nat.le_of_ble_eq_true rfl) dL_law_383) (fun rq10_ Mq8_ Tq9_ Hq_ lcq_ hP hz hH => ?_)
    try dsimp only at hP
    obtain ⟨(⟨cq11_, rfl⟩ | ⟨cq12_, rfl⟩), eT, hfr⟩ := hP
    · skip
      have eT := eT.symm; subst eT
      have hc_ro : Mq8_ ro = some (.inr (7, [.ref w, .ref im, .ref rd, .ref rc, .ref cu])) := (hfr ro n_ro_al).trans hc_ro
      have hc_im : Mq8_ im = some (.inl (kA 6, 3, .inr (.inr (.inr (.inr (fun _ => none)))))) := (hfr im n_im_al).trans hc_im
      have hc_rd : Mq8_ rd = some (.inr (3, [.ref nb, .ref vb, .int 0, .int 0, .ref by_, .int 0, .int 0, .int 0, .int 0, .int 0])) := (hfr rd n_rd_al).trans hc_rd
      have hc_mo : Mq8_ mo = some (.inr (8, [.ref al, .ref mt, .ref ii, .int 0, .int (-1), .ref pa, .int 0, .int 0, .int 0, .int 0, .int 0, .long 0, .int 0, .ref li])) := (hfr mo n_mo_al).trans hc_mo
      have hc_ii : Mq8_ ii = some (.inl (kA 2, 3, .inl (fun _ => 0))) := (hfr ii n_ii_al).trans hc_ii
      have cq11_ : 0 ≤ vq1_.toInt ∧ vq1_.toInt ≤ 7 ∧ 0 ≤ vq2_.toInt ∧ vq2_.toInt ≤ 9999 := cq11_
      refine jic_eq (tgt := 1370) hx hb dL_law_386 (by decide) (fun cq13_ => ?_) (fun cq13_ => absurd cq13_ (by decide))
      exact law_tail C0 hAq hH.2.1 (lv_sub hl [0, 3] rfl) (Nat.le_of_ble_eq_true rfl) (Nat.le_of_ble_eq_true rfl)
    · skip
      have eT := eT.symm; subst eT
      have hc_ro : Mq8_ ro = some (.inr (7, [.ref w, .ref im, .ref rd, .ref rc, .ref cu])) := (hfr ro n_ro_al).trans hc_ro
      have hc_im : Mq8_ im = some (.inl (kA 6, 3, .inr (.inr (.inr (.inr (fun _ => none)))))) := (hfr im n_im_al).trans hc_im
      have hc_rd : Mq8_ rd = some (.inr (3, [.ref nb, .ref vb, .int 0, .int 0, .ref by_, .int 0, .int 0, .int 0, .int 0, .int 0])) := (hfr rd n_rd_al).trans hc_rd
      have hc_mo : Mq8_ mo = some (.inr (8, [.ref al, .ref mt, .ref ii, .int 0, .int (-1), .ref pa, .int 0, .int 0, .int 0, .int 0, .int 0, .long 0, .int 0, .ref li])) := (hfr mo n_mo_al).trans hc_mo
      have hc_ii : Mq8_ ii = some (.inl (kA 2, 3, .inl (fun _ => 0))) := (hfr ii n_ii_al).trans hc_ii
      have cq12_ : ¬ (0 ≤ vq1_.toInt ∧ vq1_.toInt ≤ 7 ∧ 0 ≤ vq2_.toInt ∧ vq2_.toInt ≤ 9999) := cq12_
      exfalso; omega
  · skip
    have eT := eT.symm; subst eT
    have hc_ro : Mq3_ ro = some (.inr (7, [.ref w, .ref im, .ref rd, .ref rc, .ref cu])) := (hfr ro n_ro_w n_ro_cs).trans hc_ro
    have hc_im : Mq3_ im = some (.inl (kA 6, 3, .inr (.inr (.inr (.inr (fun _ => none)))))) := (hfr im n_im_w n_im_cs).trans hc_im
    have hc_rd : Mq3_ rd = some (.inr (3, [.ref nb, .ref vb, .int 0, .int 0, .ref by_, .int 0, .int 0, .int 0, .int 0, .int 0])) := (hfr rd n_rd_w n_rd_cs).trans hc_rd
    have hc_mo : Mq3_ mo = some (.inr (8, [.ref al, .ref mt, .ref ii, .int 0, .int (-1), .ref pa, .int 0, .int 0, .int 0, .int 0, .int 0, .long 0, .int 0, .ref li])) := (hfr mo n_mo_w n_mo_cs).trans hc_mo
    have hc_al : Mq3_ al = some (.inl (kA 0, 7506, .inl F)) := (hfr al n_al_w n_al_cs).trans hc_al
    have hc_ii : Mq3_ ii = some (.inl (kA 2, 3, .inl (fun _ => 0))) := (hfr ii n_ii_w n_ii_cs).trans hc_ii
    have cq7_ : ¬ (0 ≤ vq1_.toInt ∧ vq1_.toInt ≤ 7 ∧ 0 ≤ vq2_.toInt ∧ vq2_.toInt ≤ 9999) := cq7_
    refine lv_aload_n hx hb dL_law_372 rfl (lv_at hl 1 rfl) ?_
    refine lv_aload_n hx hb dL_law_373 rfl (lv_at hl 3 rfl) ?_
    refine lv_iload_n hx hb dL_law_374 rfl (lv_at hl 0 rfl) ?_
    refine lv_iconst (v := 1) hx hb dL_law_375 (by decide) ?_
    refine lv_iadd hx hb dL_law_376 ?_
    refine lv_cst (v := 1) (by decide) ?_
    refine va_sld hx hb hX hbl hbA hH.2.1 (iIn (by decide) (by decide)) dL_law_377 ?_
    refine lv_cst (v := vq1_) e_vq1_.symm ?_
    refine lv_aload_n hx hb dL_law_378 rfl (lv_at hl 3 rfl) ?_
    refine lv_iload_n hx hb dL_law_379 rfl (lv_at hl 0 rfl) ?_
    refine lv_iconst (v := 2) hx hb dL_law_380 (by decide) ?_
    refine lv_iadd hx hb dL_law_381 ?_
    refine lv_cst (v := 2) (by decide) ?_
    refine va_sld hx hb hX hbl hbA hH.2.1 (iIn (by decide) (by decide)) dL_law_382 ?_
    refine lv_cst (v := vq2_) e_vq2_.symm ?_
    refine goI hK hH (runV (As := [.int vq1_, .int vq2_]) (rest := [.int 30]) hC hK hH (c_X10_cash hc_mo hc_al hFi) mlL_45 (rcvM hK hH hc_mo rfl) ⟨⟨Nat.le_of_ble_eq_true rfl, Nat.le_of_ble_eq_true rfl⟩, Nat.le_of_ble_eq_true rfl, Nat.le_of_ble_eq_true rfl⟩ rfl hl.1 rfl (Nat.le_of_ble_eq_true rfl) dL_law_383) (fun rq16_ Mq14_ Tq15_ Hq_ lcq_ hP hz hH => ?_)
    try dsimp only at hP
    obtain ⟨(⟨cq17_, rfl⟩ | ⟨cq18_, rfl⟩), eT, hfr⟩ := hP
    · skip
      have eT := eT.symm; subst eT
      have hc_ro : Mq14_ ro = some (.inr (7, [.ref w, .ref im, .ref rd, .ref rc, .ref cu])) := (hfr ro n_ro_al).trans hc_ro
      have hc_im : Mq14_ im = some (.inl (kA 6, 3, .inr (.inr (.inr (.inr (fun _ => none)))))) := (hfr im n_im_al).trans hc_im
      have hc_rd : Mq14_ rd = some (.inr (3, [.ref nb, .ref vb, .int 0, .int 0, .ref by_, .int 0, .int 0, .int 0, .int 0, .int 0])) := (hfr rd n_rd_al).trans hc_rd
      have hc_mo : Mq14_ mo = some (.inr (8, [.ref al, .ref mt, .ref ii, .int 0, .int (-1), .ref pa, .int 0, .int 0, .int 0, .int 0, .int 0, .long 0, .int 0, .ref li])) := (hfr mo n_mo_al).trans hc_mo
      have hc_ii : Mq14_ ii = some (.inl (kA 2, 3, .inl (fun _ => 0))) := (hfr ii n_ii_al).trans hc_ii
      have cq17_ : 0 ≤ vq1_.toInt ∧ vq1_.toInt ≤ 7 ∧ 0 ≤ vq2_.toInt ∧ vq2_.toInt ≤ 9999 := cq17_
      exfalso; omega
    · skip
      have eT := eT.symm; subst eT
      have hc_ro : Mq14_ ro = some (.inr (7, [.ref w, .ref im, .ref rd, .ref rc, .ref cu])) := (hfr ro n_ro_al).trans hc_ro
      have hc_im : Mq14_ im = some (.inl (kA 6, 3, .inr (.inr (.inr (.inr (fun _ => none)))))) := (hfr im n_im_al).trans hc_im
      have hc_rd : Mq14_ rd = some (.inr (3, [.ref nb, .ref vb, .int 0, .int 0, .ref by_, .int 0, .int 0, .int 0, .int 0, .int 0])) := (hfr rd n_rd_al).trans hc_rd
      have hc_mo : Mq14_ mo = some (.inr (8, [.ref al, .ref mt, .ref ii, .int 0, .int (-1), .ref pa, .int 0, .int 0, .int 0, .int 0, .int 0, .long 0, .int 0, .ref li])) := (hfr mo n_mo_al).trans hc_mo
      have hc_ii : Mq14_ ii = some (.inl (kA 2, 3, .inl (fun _ => 0))) := (hfr ii n_ii_al).trans hc_ii
      have cq18_ : ¬ (0 ≤ vq1_.toInt ∧ vq1_.toInt ≤ 7 ∧ 0 ≤ vq2_.toInt ∧ vq2_.toInt ≤ 9999) := cq18_
      refine jic_eq (tgt := 1370) hx hb dL_law_386 (by decide) (fun cq19_ => ?_) (fun cq19_ => absurd cq19_ (by decide))
      exact law_tail C0 hAq hH.2.1 (lv_sub hl [0, 3] rfl) (Nat.le_of_ble_eq_true rfl) (Nat.le_of_ble_eq_true rfl)
set_option maxHeartbeats 4000000 in
set_option maxRecDepth 100000 in
theorem law_case_7 {p : Program} {e : Env} {s : State} {m : MethodId} {below : List Frame} {meth : Method} {c : Code} {l : Launch} {b : Nat} {xs : Nat → Int32} (C0 : lw_At p s m meth c b 6 xs) {D : va_G} {kA : Nat → ClassId} (hK : mK D kA s) {M : mM} {T : mT} {A : Nat → Prop} (hAq : ∀ q, A q → s.heap.size ≤ q) {Hq_ : Heap} {lcq_ : List Loc} {ls : Array Slot} {ro w im rd rc cu cs bs tp nb by_ vb mo al mt ii pa li : Nat} {F : Nat → Int32} (hc_ro : M ro = some (.inr (7, [.ref w, .ref im, .ref rd, .ref rc, .ref cu]))) (hc_w : M w = some (.inr (6, [.int 0, .int 2, .int 0, .int 0, .int 0, .int 0, .int 0, .int (-1), .ref cs, .ref bs, .ref tp]))) (hc_cs : M cs = some (.inl (kA 0, 8, .inl (c100 (fun _ => 0))))) (hc_im : M im = some (.inl (kA 6, 3, .inr (.inr (.inr (.inr (fun _ => none))))))) (hc_rd : M rd = some (.inr (3, [.ref nb, .ref vb, .int 0, .int 0, .ref by_, .int 0, .int 0, .int 0, .int 0, .int 0]))) (hc_mo : M mo = some (.inr (8, [.ref al, .ref mt, .ref ii, .int 0, .int (-1), .ref pa, .int 0, .int 0, .int 0, .int 0, .int 0, .long 0, .int 0, .ref li]))) (hc_al : M al = some (.inl (kA 0, 7506, .inl F))) (hc_ii : M ii = some (.inl (kA 2, 3, .inl (fun _ => 0)))) (ht_bs : T bs = some 6) (ht_tp : T tp = some 7) (ht_mt : T mt = some 11) (hFi : ∀ j, j < 1140 → F j = mIni j) (hH : mS D kA M T A s.heap Hq_ lcq_) (hl : lv_has ls 4 [(3, .int 0), (2, .ref mo), (1, .ref ro), (0, .ref b)]) : W p l e room_1 s m #[Value.ref b] below meth c Hq_ lcq_ 156 11688 (lw_Z below #[Value.ref b] s) (F0 m 391 ls []) := by
  obtain ⟨hx, hb, hr, hml, hown, hts, hX, hbl, hlocks, hgv⟩ := id C0
  have hC : CallFix p m c cL_law 4 s #[Value.ref b] TB RL := ⟨hx, hb, hml, hown, fun w h => hts w (TB_in h)⟩
  have hbA : ¬ A b := fun h => absurd (hAq b h) (Nat.not_le.mpr hbl)
  have n_ro_w : ro ≠ w := neM hc_ro hc_w (by simp)
  have n_ro_cs : ro ≠ cs := neM hc_ro hc_cs (by simp)
  have n_ro_im : ro ≠ im := neM hc_ro hc_im (by simp)
  have n_ro_rd : ro ≠ rd := neM hc_ro hc_rd (by simp)
  have n_ro_mo : ro ≠ mo := neM hc_ro hc_mo (by simp)
  have n_ro_al : ro ≠ al := neM hc_ro hc_al (by simp)
  have n_ro_ii : ro ≠ ii := neM hc_ro hc_ii (by simp)
  have n_w_ro : w ≠ ro := neM hc_w hc_ro (by simp)
  have n_w_cs : w ≠ cs := neM hc_w hc_cs (by simp)
  have n_w_im : w ≠ im := neM hc_w hc_im (by simp)
  have n_w_rd : w ≠ rd := neM hc_w hc_rd (by simp)
  have n_w_mo : w ≠ mo := neM hc_w hc_mo (by simp)
  have n_w_al : w ≠ al := neM hc_w hc_al (by simp)
  have n_w_ii : w ≠ ii := neM hc_w hc_ii (by simp)
  have n_cs_ro : cs ≠ ro := neM hc_cs hc_ro (by simp)
  have n_cs_w : cs ≠ w := neM hc_cs hc_w (by simp)
  have n_cs_im : cs ≠ im := neM hc_cs hc_im (by simp)
  have n_cs_rd : cs ≠ rd := neM hc_cs hc_rd (by simp)
  have n_cs_mo : cs ≠ mo := neM hc_cs hc_mo (by simp)
  have n_cs_al : cs ≠ al := neM hc_cs hc_al (by simp)
  have n_cs_ii : cs ≠ ii := neM hc_cs hc_ii (by simp)
  have n_im_ro : im ≠ ro := neM hc_im hc_ro (by simp)
  have n_im_w : im ≠ w := neM hc_im hc_w (by simp)
  have n_im_cs : im ≠ cs := neM hc_im hc_cs (by simp)
  have n_im_rd : im ≠ rd := neM hc_im hc_rd (by simp)
  have n_im_mo : im ≠ mo := neM hc_im hc_mo (by simp)
  have n_im_al : im ≠ al := neM hc_im hc_al (by simp)
  have n_im_ii : im ≠ ii := neM hc_im hc_ii (by simp)
  have n_rd_ro : rd ≠ ro := neM hc_rd hc_ro (by simp)
  have n_rd_w : rd ≠ w := neM hc_rd hc_w (by simp)
  have n_rd_cs : rd ≠ cs := neM hc_rd hc_cs (by simp)
  have n_rd_im : rd ≠ im := neM hc_rd hc_im (by simp)
  have n_rd_mo : rd ≠ mo := neM hc_rd hc_mo (by simp)
  have n_rd_al : rd ≠ al := neM hc_rd hc_al (by simp)
  have n_rd_ii : rd ≠ ii := neM hc_rd hc_ii (by simp)
  have n_mo_ro : mo ≠ ro := neM hc_mo hc_ro (by simp)
  have n_mo_w : mo ≠ w := neM hc_mo hc_w (by simp)
  have n_mo_cs : mo ≠ cs := neM hc_mo hc_cs (by simp)
  have n_mo_im : mo ≠ im := neM hc_mo hc_im (by simp)
  have n_mo_rd : mo ≠ rd := neM hc_mo hc_rd (by simp)
  have n_mo_al : mo ≠ al := neM hc_mo hc_al (by simp)
  have n_mo_ii : mo ≠ ii := neM hc_mo hc_ii (by simp)
  have n_al_ro : al ≠ ro := neM hc_al hc_ro (by simp)
  have n_al_w : al ≠ w := neM hc_al hc_w (by simp)
  have n_al_cs : al ≠ cs := neM hc_al hc_cs (by simp)
  have n_al_im : al ≠ im := neM hc_al hc_im (by simp)
  have n_al_rd : al ≠ rd := neM hc_al hc_rd (by simp)
  have n_al_mo : al ≠ mo := neM hc_al hc_mo (by simp)
  have n_al_ii : al ≠ ii := neM hc_al hc_ii (by simp)
  have n_ii_ro : ii ≠ ro := neM hc_ii hc_ro (by simp)
  have n_ii_w : ii ≠ w := neM hc_ii hc_w (by simp)
  have n_ii_cs : ii ≠ cs := neM hc_ii hc_cs (by simp)
  have n_ii_im : ii ≠ im := neM hc_ii hc_im (by simp)
  have n_ii_rd : ii ≠ rd := neM hc_ii hc_rd (by simp)
  have n_ii_mo : ii ≠ mo := neM hc_ii hc_mo (by simp)
  have n_ii_al : ii ≠ al := neM hc_ii hc_al (by simp)
  refine lv_aload_n hx hb dL_law_391 rfl (lv_at hl 2 rfl) ?_
  refine lv_aload_n hx hb dL_law_392 rfl (lv_at hl 3 rfl) ?_
  refine lv_iload_n hx hb dL_law_393 rfl (lv_at hl 0 rfl) ?_
  refine lv_iconst (v := 1) hx hb dL_law_394 (by decide) ?_
  refine lv_iadd hx hb dL_law_395 ?_
  refine lv_cst (v := 1) (by decide) ?_
  refine va_sld hx hb hX hbl hbA hH.2.1 (iIn (by decide) (by decide)) dL_law_396 ?_
  refine lv_topi (fun vq1_ e_vq1_ => ?_)
  refine goI hK hH (runV (As := [.int vq1_]) (rest := []) hC hK hH (c_X9_grace hc_ro hc_w) mlL_46 (rcvM hK hH hc_ro rfl) ⟨⟨Nat.le_of_ble_eq_true rfl, Nat.le_of_ble_eq_true rfl⟩, Nat.le_of_ble_eq_true rfl, Nat.le_of_ble_eq_true rfl⟩ rfl hl.1 rfl (Nat.le_of_ble_eq_true rfl) dL_law_397) (fun rq4_ Mq2_ Tq3_ Hq_ lcq_ hP hz hH => ?_)
  try dsimp only at hP
  obtain ⟨(⟨cq5_, rfl⟩ | ⟨cq6_, rfl⟩), eT, hfr⟩ := hP
  · skip
    have eT := eT.symm; subst eT
    have hc_ro : Mq2_ ro = some (.inr (7, [.ref w, .ref im, .ref rd, .ref rc, .ref cu])) := (hfr ro n_ro_w).trans hc_ro
    have hc_cs : Mq2_ cs = some (.inl (kA 0, 8, .inl (c100 (fun _ => 0)))) := (hfr cs n_cs_w).trans hc_cs
    have hc_im : Mq2_ im = some (.inl (kA 6, 3, .inr (.inr (.inr (.inr (fun _ => none)))))) := (hfr im n_im_w).trans hc_im
    have hc_rd : Mq2_ rd = some (.inr (3, [.ref nb, .ref vb, .int 0, .int 0, .ref by_, .int 0, .int 0, .int 0, .int 0, .int 0])) := (hfr rd n_rd_w).trans hc_rd
    have hc_mo : Mq2_ mo = some (.inr (8, [.ref al, .ref mt, .ref ii, .int 0, .int (-1), .ref pa, .int 0, .int 0, .int 0, .int 0, .int 0, .long 0, .int 0, .ref li])) := (hfr mo n_mo_w).trans hc_mo
    have hc_al : Mq2_ al = some (.inl (kA 0, 7506, .inl F)) := (hfr al n_al_w).trans hc_al
    have hc_ii : Mq2_ ii = some (.inl (kA 2, 3, .inl (fun _ => 0))) := (hfr ii n_ii_w).trans hc_ii
    have cq5_ : 1 ≤ vq1_.toInt ∧ vq1_.toInt ≤ 9 := cq5_
    refine lv_aload_n hx hb dL_law_400 rfl (lv_at hl 1 rfl) ?_
    refine lv_aload_n hx hb dL_law_401 rfl (lv_at hl 3 rfl) ?_
    refine lv_iload_n hx hb dL_law_402 rfl (lv_at hl 0 rfl) ?_
    refine lv_iconst (v := 1) hx hb dL_law_403 (by decide) ?_
    refine lv_iadd hx hb dL_law_404 ?_
    refine lv_cst (v := 1) (by decide) ?_
    refine va_sld hx hb hX hbl hbA hH.2.1 (iIn (by decide) (by decide)) dL_law_405 ?_
    refine lv_cst (v := vq1_) e_vq1_.symm ?_
    refine goI hK hH (runV (As := [.int vq1_]) (rest := [.int 0]) hC hK hH (c_X10_grace hc_mo hc_al hFi) mlL_49 (rcvM hK hH hc_mo rfl) ⟨⟨Nat.le_of_ble_eq_true rfl, Nat.le_of_ble_eq_true rfl⟩, Nat.le_of_ble_eq_true rfl, Nat.le_of_ble_eq_true rfl⟩ rfl hl.1 rfl (Nat.le_of_ble_eq_true rfl) dL_law_406) (fun rq9_ Mq7_ Tq8_ Hq_ lcq_ hP hz hH => ?_)
    try dsimp only at hP
    obtain ⟨(⟨cq10_, rfl⟩ | ⟨cq11_, rfl⟩), eT, hfr⟩ := hP
    · skip
      have eT := eT.symm; subst eT
      have hc_ro : Mq7_ ro = some (.inr (7, [.ref w, .ref im, .ref rd, .ref rc, .ref cu])) := (hfr ro n_ro_al).trans hc_ro
      have hc_cs : Mq7_ cs = some (.inl (kA 0, 8, .inl (c100 (fun _ => 0)))) := (hfr cs n_cs_al).trans hc_cs
      have hc_im : Mq7_ im = some (.inl (kA 6, 3, .inr (.inr (.inr (.inr (fun _ => none)))))) := (hfr im n_im_al).trans hc_im
      have hc_rd : Mq7_ rd = some (.inr (3, [.ref nb, .ref vb, .int 0, .int 0, .ref by_, .int 0, .int 0, .int 0, .int 0, .int 0])) := (hfr rd n_rd_al).trans hc_rd
      have hc_mo : Mq7_ mo = some (.inr (8, [.ref al, .ref mt, .ref ii, .int 0, .int (-1), .ref pa, .int 0, .int 0, .int 0, .int 0, .int 0, .long 0, .int 0, .ref li])) := (hfr mo n_mo_al).trans hc_mo
      have hc_ii : Mq7_ ii = some (.inl (kA 2, 3, .inl (fun _ => 0))) := (hfr ii n_ii_al).trans hc_ii
      have cq10_ : 1 ≤ vq1_.toInt ∧ vq1_.toInt ≤ 9 := cq10_
      refine jic_eq (tgt := 1370) hx hb dL_law_409 (by decide) (fun cq12_ => ?_) (fun cq12_ => absurd cq12_ (by decide))
      exact law_tail C0 hAq hH.2.1 (lv_sub hl [0, 3] rfl) (Nat.le_of_ble_eq_true rfl) (Nat.le_of_ble_eq_true rfl)
    · skip
      have eT := eT.symm; subst eT
      have hc_ro : Mq7_ ro = some (.inr (7, [.ref w, .ref im, .ref rd, .ref rc, .ref cu])) := (hfr ro n_ro_al).trans hc_ro
      have hc_cs : Mq7_ cs = some (.inl (kA 0, 8, .inl (c100 (fun _ => 0)))) := (hfr cs n_cs_al).trans hc_cs
      have hc_im : Mq7_ im = some (.inl (kA 6, 3, .inr (.inr (.inr (.inr (fun _ => none)))))) := (hfr im n_im_al).trans hc_im
      have hc_rd : Mq7_ rd = some (.inr (3, [.ref nb, .ref vb, .int 0, .int 0, .ref by_, .int 0, .int 0, .int 0, .int 0, .int 0])) := (hfr rd n_rd_al).trans hc_rd
      have hc_mo : Mq7_ mo = some (.inr (8, [.ref al, .ref mt, .ref ii, .int 0, .int (-1), .ref pa, .int 0, .int 0, .int 0, .int 0, .int 0, .long 0, .int 0, .ref li])) := (hfr mo n_mo_al).trans hc_mo
      have hc_ii : Mq7_ ii = some (.inl (kA 2, 3, .inl (fun _ => 0))) := (hfr ii n_ii_al).trans hc_ii
      have cq11_ : ¬ (1 ≤ vq1_.toInt ∧ vq1_.toInt ≤ 9) := cq11_
      exfalso; omega
  · skip
    have eT := eT.symm; subst eT
    have hc_ro : Mq2_ ro = some (.inr (7, [.ref w, .ref im, .ref rd, .ref rc, .ref cu])) := (hfr ro n_ro_w).trans hc_ro
    have hc_cs : Mq2_ cs = some (.inl (kA 0, 8, .inl (c100 (fun _ => 0)))) := (hfr cs n_cs_w).trans hc_cs
    have hc_im : Mq2_ im = some (.inl (kA 6, 3, .inr (.inr (.inr (.inr (fun _ => none)))))) := (hfr im n_im_w).trans hc_im
    have hc_rd : Mq2_ rd = some (.inr (3, [.ref nb, .ref vb, .int 0, .int 0, .ref by_, .int 0, .int 0, .int 0, .int 0, .int 0])) := (hfr rd n_rd_w).trans hc_rd
    have hc_mo : Mq2_ mo = some (.inr (8, [.ref al, .ref mt, .ref ii, .int 0, .int (-1), .ref pa, .int 0, .int 0, .int 0, .int 0, .int 0, .long 0, .int 0, .ref li])) := (hfr mo n_mo_w).trans hc_mo
    have hc_al : Mq2_ al = some (.inl (kA 0, 7506, .inl F)) := (hfr al n_al_w).trans hc_al
    have hc_ii : Mq2_ ii = some (.inl (kA 2, 3, .inl (fun _ => 0))) := (hfr ii n_ii_w).trans hc_ii
    have cq6_ : ¬ (1 ≤ vq1_.toInt ∧ vq1_.toInt ≤ 9) := cq6_
    refine lv_aload_n hx hb dL_law_400 rfl (lv_at hl 1 rfl) ?_
    refine lv_aload_n hx hb dL_law_401 rfl (lv_at hl 3 rfl) ?_
    refine lv_iload_n hx hb dL_law_402 rfl (lv_at hl 0 rfl) ?_
    refine lv_iconst (v := 1) hx hb dL_law_403 (by decide) ?_
    refine lv_iadd hx hb dL_law_404 ?_
    refine lv_cst (v := 1) (by decide) ?_
    refine va_sld hx hb hX hbl hbA hH.2.1 (iIn (by decide) (by decide)) dL_law_405 ?_
    refine lv_cst (v := vq1_) e_vq1_.symm ?_
    refine goI hK hH (runV (As := [.int vq1_]) (rest := [.int 30]) hC hK hH (c_X10_grace hc_mo hc_al hFi) mlL_49 (rcvM hK hH hc_mo rfl) ⟨⟨Nat.le_of_ble_eq_true rfl, Nat.le_of_ble_eq_true rfl⟩, Nat.le_of_ble_eq_true rfl, Nat.le_of_ble_eq_true rfl⟩ rfl hl.1 rfl (Nat.le_of_ble_eq_true rfl) dL_law_406) (fun rq15_ Mq13_ Tq14_ Hq_ lcq_ hP hz hH => ?_)
    try dsimp only at hP
    obtain ⟨(⟨cq16_, rfl⟩ | ⟨cq17_, rfl⟩), eT, hfr⟩ := hP
    · skip
      have eT := eT.symm; subst eT
      have hc_ro : Mq13_ ro = some (.inr (7, [.ref w, .ref im, .ref rd, .ref rc, .ref cu])) := (hfr ro n_ro_al).trans hc_ro
      have hc_cs : Mq13_ cs = some (.inl (kA 0, 8, .inl (c100 (fun _ => 0)))) := (hfr cs n_cs_al).trans hc_cs
      have hc_im : Mq13_ im = some (.inl (kA 6, 3, .inr (.inr (.inr (.inr (fun _ => none)))))) := (hfr im n_im_al).trans hc_im
      have hc_rd : Mq13_ rd = some (.inr (3, [.ref nb, .ref vb, .int 0, .int 0, .ref by_, .int 0, .int 0, .int 0, .int 0, .int 0])) := (hfr rd n_rd_al).trans hc_rd
      have hc_mo : Mq13_ mo = some (.inr (8, [.ref al, .ref mt, .ref ii, .int 0, .int (-1), .ref pa, .int 0, .int 0, .int 0, .int 0, .int 0, .long 0, .int 0, .ref li])) := (hfr mo n_mo_al).trans hc_mo
      have hc_ii : Mq13_ ii = some (.inl (kA 2, 3, .inl (fun _ => 0))) := (hfr ii n_ii_al).trans hc_ii
      have cq16_ : 1 ≤ vq1_.toInt ∧ vq1_.toInt ≤ 9 := cq16_
      exfalso; omega
    · skip
      have eT := eT.symm; subst eT
      have hc_ro : Mq13_ ro = some (.inr (7, [.ref w, .ref im, .ref rd, .ref rc, .ref cu])) := (hfr ro n_ro_al).trans hc_ro
      have hc_cs : Mq13_ cs = some (.inl (kA 0, 8, .inl (c100 (fun _ => 0)))) := (hfr cs n_cs_al).trans hc_cs
      have hc_im : Mq13_ im = some (.inl (kA 6, 3, .inr (.inr (.inr (.inr (fun _ => none)))))) := (hfr im n_im_al).trans hc_im
      have hc_rd : Mq13_ rd = some (.inr (3, [.ref nb, .ref vb, .int 0, .int 0, .ref by_, .int 0, .int 0, .int 0, .int 0, .int 0])) := (hfr rd n_rd_al).trans hc_rd
      have hc_mo : Mq13_ mo = some (.inr (8, [.ref al, .ref mt, .ref ii, .int 0, .int (-1), .ref pa, .int 0, .int 0, .int 0, .int 0, .int 0, .long 0, .int 0, .ref li])) := (hfr mo n_mo_al).trans hc_mo
      have hc_ii : Mq13_ ii = some (.inl (kA 2, 3, .inl (fun _ => 0))) := (hfr ii n_ii_al).trans hc_ii
      have cq17_ : ¬ (1 ≤ vq1_.toInt ∧ vq1_.toInt ≤ 9) := cq17_
      refine jic_eq (tgt := 1370) hx hb dL_law_409 (by decide) (fun cq18_ => ?_) (fun cq18_ => absurd cq18_ (by decide))
      exact law_tail C0 hAq hH.2.1 (lv_sub hl [0, 3] rfl) (Nat.le_of_ble_eq_true rfl) (Nat.le_of_ble_eq_true rfl)
set_option maxHeartbeats 4000000 in
set_option maxRecDepth 100000 in
theorem law_case_8 {p : Program} {e : Env} {s : State} {m : MethodId} {below : List Frame} {meth : Method} {c : Code} {l : Launch} {b : Nat} {xs : Nat → Int32} (C0 : lw_At p s m meth c b 6 xs) {D : va_G} {kA : Nat → ClassId} (hK : mK D kA s) {M : mM} {T : mT} {A : Nat → Prop} (hAq : ∀ q, A q → s.heap.size ≤ q) {Hq_ : Heap} {lcq_ : List Loc} {ls : Array Slot} {ro w im rd rc cu cs bs tp nb by_ vb mo al mt ii pa li : Nat} {F : Nat → Int32} (hc_ro : M ro = some (.inr (7, [.ref w, .ref im, .ref rd, .ref rc, .ref cu]))) (hc_w : M w = some (.inr (6, [.int 0, .int 2, .int 0, .int 0, .int 0, .int 0, .int 0, .int (-1), .ref cs, .ref bs, .ref tp]))) (hc_cs : M cs = some (.inl (kA 0, 8, .inl (c100 (fun _ => 0))))) (hc_im : M im = some (.inl (kA 6, 3, .inr (.inr (.inr (.inr (fun _ => none))))))) (hc_rd : M rd = some (.inr (3, [.ref nb, .ref vb, .int 0, .int 0, .ref by_, .int 0, .int 0, .int 0, .int 0, .int 0]))) (hc_mo : M mo = some (.inr (8, [.ref al, .ref mt, .ref ii, .int 0, .int (-1), .ref pa, .int 0, .int 0, .int 0, .int 0, .int 0, .long 0, .int 0, .ref li]))) (hc_al : M al = some (.inl (kA 0, 7506, .inl F))) (hc_ii : M ii = some (.inl (kA 2, 3, .inl (fun _ => 0)))) (ht_bs : T bs = some 6) (ht_tp : T tp = some 7) (ht_mt : T mt = some 11) (hFi : ∀ j, j < 1140 → F j = mIni j) (hH : mS D kA M T A s.heap Hq_ lcq_) (hl : lv_has ls 4 [(3, .int 0), (2, .ref mo), (1, .ref ro), (0, .ref b)]) : W p l e room_1 s m #[Value.ref b] below meth c Hq_ lcq_ 156 11688 (lw_Z below #[Value.ref b] s) (F0 m 414 ls []) := by
  obtain ⟨hx, hb, hr, hml, hown, hts, hX, hbl, hlocks, hgv⟩ := id C0
  have hC : CallFix p m c cL_law 4 s #[Value.ref b] TB RL := ⟨hx, hb, hml, hown, fun w h => hts w (TB_in h)⟩
  have hbA : ¬ A b := fun h => absurd (hAq b h) (Nat.not_le.mpr hbl)
  have n_ro_w : ro ≠ w := neM hc_ro hc_w (by simp)
  have n_ro_cs : ro ≠ cs := neM hc_ro hc_cs (by simp)
  have n_ro_im : ro ≠ im := neM hc_ro hc_im (by simp)
  have n_ro_rd : ro ≠ rd := neM hc_ro hc_rd (by simp)
  have n_ro_mo : ro ≠ mo := neM hc_ro hc_mo (by simp)
  have n_ro_al : ro ≠ al := neM hc_ro hc_al (by simp)
  have n_ro_ii : ro ≠ ii := neM hc_ro hc_ii (by simp)
  have n_w_ro : w ≠ ro := neM hc_w hc_ro (by simp)
  have n_w_cs : w ≠ cs := neM hc_w hc_cs (by simp)
  have n_w_im : w ≠ im := neM hc_w hc_im (by simp)
  have n_w_rd : w ≠ rd := neM hc_w hc_rd (by simp)
  have n_w_mo : w ≠ mo := neM hc_w hc_mo (by simp)
  have n_w_al : w ≠ al := neM hc_w hc_al (by simp)
  have n_w_ii : w ≠ ii := neM hc_w hc_ii (by simp)
  have n_cs_ro : cs ≠ ro := neM hc_cs hc_ro (by simp)
  have n_cs_w : cs ≠ w := neM hc_cs hc_w (by simp)
  have n_cs_im : cs ≠ im := neM hc_cs hc_im (by simp)
  have n_cs_rd : cs ≠ rd := neM hc_cs hc_rd (by simp)
  have n_cs_mo : cs ≠ mo := neM hc_cs hc_mo (by simp)
  have n_cs_al : cs ≠ al := neM hc_cs hc_al (by simp)
  have n_cs_ii : cs ≠ ii := neM hc_cs hc_ii (by simp)
  have n_im_ro : im ≠ ro := neM hc_im hc_ro (by simp)
  have n_im_w : im ≠ w := neM hc_im hc_w (by simp)
  have n_im_cs : im ≠ cs := neM hc_im hc_cs (by simp)
  have n_im_rd : im ≠ rd := neM hc_im hc_rd (by simp)
  have n_im_mo : im ≠ mo := neM hc_im hc_mo (by simp)
  have n_im_al : im ≠ al := neM hc_im hc_al (by simp)
  have n_im_ii : im ≠ ii := neM hc_im hc_ii (by simp)
  have n_rd_ro : rd ≠ ro := neM hc_rd hc_ro (by simp)
  have n_rd_w : rd ≠ w := neM hc_rd hc_w (by simp)
  have n_rd_cs : rd ≠ cs := neM hc_rd hc_cs (by simp)
  have n_rd_im : rd ≠ im := neM hc_rd hc_im (by simp)
  have n_rd_mo : rd ≠ mo := neM hc_rd hc_mo (by simp)
  have n_rd_al : rd ≠ al := neM hc_rd hc_al (by simp)
  have n_rd_ii : rd ≠ ii := neM hc_rd hc_ii (by simp)
  have n_mo_ro : mo ≠ ro := neM hc_mo hc_ro (by simp)
  have n_mo_w : mo ≠ w := neM hc_mo hc_w (by simp)
  have n_mo_cs : mo ≠ cs := neM hc_mo hc_cs (by simp)
  have n_mo_im : mo ≠ im := neM hc_mo hc_im (by simp)
  have n_mo_rd : mo ≠ rd := neM hc_mo hc_rd (by simp)
  have n_mo_al : mo ≠ al := neM hc_mo hc_al (by simp)
  have n_mo_ii : mo ≠ ii := neM hc_mo hc_ii (by simp)
  have n_al_ro : al ≠ ro := neM hc_al hc_ro (by simp)
  have n_al_w : al ≠ w := neM hc_al hc_w (by simp)
  have n_al_cs : al ≠ cs := neM hc_al hc_cs (by simp)
  have n_al_im : al ≠ im := neM hc_al hc_im (by simp)
  have n_al_rd : al ≠ rd := neM hc_al hc_rd (by simp)
  have n_al_mo : al ≠ mo := neM hc_al hc_mo (by simp)
  have n_al_ii : al ≠ ii := neM hc_al hc_ii (by simp)
  have n_ii_ro : ii ≠ ro := neM hc_ii hc_ro (by simp)
  have n_ii_w : ii ≠ w := neM hc_ii hc_w (by simp)
  have n_ii_cs : ii ≠ cs := neM hc_ii hc_cs (by simp)
  have n_ii_im : ii ≠ im := neM hc_ii hc_im (by simp)
  have n_ii_rd : ii ≠ rd := neM hc_ii hc_rd (by simp)
  have n_ii_mo : ii ≠ mo := neM hc_ii hc_mo (by simp)
  have n_ii_al : ii ≠ al := neM hc_ii hc_al (by simp)
  refine lv_aload_n hx hb dL_law_414 rfl (lv_at hl 2 rfl) ?_
  refine lv_aload_n hx hb dL_law_415 rfl (lv_at hl 3 rfl) ?_
  refine lv_iload_n hx hb dL_law_416 rfl (lv_at hl 0 rfl) ?_
  refine lv_iconst (v := 1) hx hb dL_law_417 (by decide) ?_
  refine lv_iadd hx hb dL_law_418 ?_
  refine lv_cst (v := 1) (by decide) ?_
  refine va_sld hx hb hX hbl hbA hH.2.1 (iIn (by decide) (by decide)) dL_law_419 ?_
  refine lv_topi (fun vq1_ e_vq1_ => ?_)
  refine lv_aload_n hx hb dL_law_420 rfl (lv_at hl 3 rfl) ?_
  refine lv_iload_n hx hb dL_law_421 rfl (lv_at hl 0 rfl) ?_
  refine lv_iconst (v := 2) hx hb dL_law_422 (by decide) ?_
  refine lv_iadd hx hb dL_law_423 ?_
  refine lv_cst (v := 2) (by decide) ?_
  refine va_sld hx hb hX hbl hbA hH.2.1 (iIn (by decide) (by decide)) dL_law_424 ?_
  refine lv_topi (fun vq2_ e_vq2_ => ?_)
  refine lv_aload_n hx hb dL_law_425 rfl (lv_at hl 3 rfl) ?_
  refine lv_iload_n hx hb dL_law_426 rfl (lv_at hl 0 rfl) ?_
  refine lv_iconst (v := 3) hx hb dL_law_427 (by decide) ?_
  refine lv_iadd hx hb dL_law_428 ?_
  refine lv_cst (v := 3) (by decide) ?_
  refine va_sld hx hb hX hbl hbA hH.2.1 (iIn (by decide) (by decide)) dL_law_429 ?_
  refine lv_topi (fun vq3_ e_vq3_ => ?_)
  refine lv_aload_n hx hb dL_law_430 rfl (lv_at hl 3 rfl) ?_
  refine lv_iload_n hx hb dL_law_431 rfl (lv_at hl 0 rfl) ?_
  refine lv_iconst (v := 4) hx hb dL_law_432 (by decide) ?_
  refine lv_iadd hx hb dL_law_433 ?_
  refine lv_cst (v := 4) (by decide) ?_
  refine va_sld hx hb hX hbl hbA hH.2.1 (iIn (by decide) (by decide)) dL_law_434 ?_
  refine lv_topi (fun vq4_ e_vq4_ => ?_)
  refine lv_aload_n hx hb dL_law_435 rfl (lv_at hl 3 rfl) ?_
  refine lv_iload_n hx hb dL_law_436 rfl (lv_at hl 0 rfl) ?_
  refine lv_iconst (v := 5) hx hb dL_law_437 (by decide) ?_
  refine lv_iadd hx hb dL_law_438 ?_
  refine lv_cst (v := 5) (by decide) ?_
  refine va_sld hx hb hX hbl hbA hH.2.1 (iIn (by decide) (by decide)) dL_law_439 ?_
  refine lv_topi (fun vq5_ e_vq5_ => ?_)
  refine goI hK hH (runV (As := [.int vq1_, .int vq2_, .int vq3_, .int vq4_, .int vq5_]) (rest := []) hC hK hH (c_X9_draw hc_ro hc_w ht_bs) mlL_50 (rcvM hK hH hc_ro rfl) ⟨⟨Nat.le_of_ble_eq_true rfl, Nat.le_of_ble_eq_true rfl⟩, Nat.le_of_ble_eq_true rfl, Nat.le_of_ble_eq_true rfl⟩ rfl hl.1 rfl (Nat.le_of_ble_eq_true rfl) dL_law_440) (fun rq8_ Mq6_ Tq7_ Hq_ lcq_ hP hz hH => ?_)
  try dsimp only at hP
  obtain ⟨(⟨cq9_, rfl⟩ | ⟨cq10_, rfl⟩), eT, hfr⟩ := hP
  · skip
    have eT := eT.symm; subst eT
    have hc_ro : Mq6_ ro = some (.inr (7, [.ref w, .ref im, .ref rd, .ref rc, .ref cu])) := (hfr ro n_ro_w).trans hc_ro
    have hc_cs : Mq6_ cs = some (.inl (kA 0, 8, .inl (c100 (fun _ => 0)))) := (hfr cs n_cs_w).trans hc_cs
    have hc_im : Mq6_ im = some (.inl (kA 6, 3, .inr (.inr (.inr (.inr (fun _ => none)))))) := (hfr im n_im_w).trans hc_im
    have hc_rd : Mq6_ rd = some (.inr (3, [.ref nb, .ref vb, .int 0, .int 0, .ref by_, .int 0, .int 0, .int 0, .int 0, .int 0])) := (hfr rd n_rd_w).trans hc_rd
    have hc_mo : Mq6_ mo = some (.inr (8, [.ref al, .ref mt, .ref ii, .int 0, .int (-1), .ref pa, .int 0, .int 0, .int 0, .int 0, .int 0, .long 0, .int 0, .ref li])) := (hfr mo n_mo_w).trans hc_mo
    have hc_al : Mq6_ al = some (.inl (kA 0, 7506, .inl F)) := (hfr al n_al_w).trans hc_al
    have hc_ii : Mq6_ ii = some (.inl (kA 2, 3, .inl (fun _ => 0))) := (hfr ii n_ii_w).trans hc_ii
    have cq9_ : 0 ≤ vq1_.toInt ∧ vq1_.toInt ≤ 7 ∧ 0 ≤ vq2_.toInt ∧ vq2_.toInt ≤ 7 ∧ (0 ≤ vq3_.toInt ∧ vq3_.toInt ≤ 7 ∨ 10 ≤ vq3_.toInt ∧ vq3_.toInt ≤ 17) ∧ 1 ≤ vq4_.toInt ∧ vq4_.toInt ≤ 999 ∧ 0 ≤ vq5_.toInt ∧ vq5_.toInt ≤ 99 := cq9_
    refine lv_aload_n hx hb dL_law_443 rfl (lv_at hl 1 rfl) ?_
    refine lv_aload_n hx hb dL_law_444 rfl (lv_at hl 3 rfl) ?_
    refine lv_iload_n hx hb dL_law_445 rfl (lv_at hl 0 rfl) ?_
    refine lv_iconst (v := 1) hx hb dL_law_446 (by decide) ?_
    refine lv_iadd hx hb dL_law_447 ?_
    refine lv_cst (v := 1) (by decide) ?_
    refine va_sld hx hb hX hbl hbA hH.2.1 (iIn (by decide) (by decide)) dL_law_448 ?_
    refine lv_cst (v := vq1_) e_vq1_.symm ?_
    refine lv_aload_n hx hb dL_law_449 rfl (lv_at hl 3 rfl) ?_
    refine lv_iload_n hx hb dL_law_450 rfl (lv_at hl 0 rfl) ?_
    refine lv_iconst (v := 2) hx hb dL_law_451 (by decide) ?_
    refine lv_iadd hx hb dL_law_452 ?_
    refine lv_cst (v := 2) (by decide) ?_
    refine va_sld hx hb hX hbl hbA hH.2.1 (iIn (by decide) (by decide)) dL_law_453 ?_
    refine lv_cst (v := vq2_) e_vq2_.symm ?_
    refine lv_aload_n hx hb dL_law_454 rfl (lv_at hl 3 rfl) ?_
    refine lv_iload_n hx hb dL_law_455 rfl (lv_at hl 0 rfl) ?_
    refine lv_iconst (v := 3) hx hb dL_law_456 (by decide) ?_
    refine lv_iadd hx hb dL_law_457 ?_
    refine lv_cst (v := 3) (by decide) ?_
    refine va_sld hx hb hX hbl hbA hH.2.1 (iIn (by decide) (by decide)) dL_law_458 ?_
    refine lv_cst (v := vq3_) e_vq3_.symm ?_
    refine lv_aload_n hx hb dL_law_459 rfl (lv_at hl 3 rfl) ?_
    refine lv_iload_n hx hb dL_law_460 rfl (lv_at hl 0 rfl) ?_
    refine lv_iconst (v := 4) hx hb dL_law_461 (by decide) ?_
    refine lv_iadd hx hb dL_law_462 ?_
    refine lv_cst (v := 4) (by decide) ?_
    refine va_sld hx hb hX hbl hbA hH.2.1 (iIn (by decide) (by decide)) dL_law_463 ?_
    refine lv_cst (v := vq4_) e_vq4_.symm ?_
    refine lv_aload_n hx hb dL_law_464 rfl (lv_at hl 3 rfl) ?_
    refine lv_iload_n hx hb dL_law_465 rfl (lv_at hl 0 rfl) ?_
    refine lv_iconst (v := 5) hx hb dL_law_466 (by decide) ?_
    refine lv_iadd hx hb dL_law_467 ?_
    refine lv_cst (v := 5) (by decide) ?_
    refine va_sld hx hb hX hbl hbA hH.2.1 (iIn (by decide) (by decide)) dL_law_468 ?_
    refine lv_cst (v := vq5_) e_vq5_.symm ?_
    refine goI hK hH (runV (As := [.int vq1_, .int vq2_, .int vq3_, .int vq4_, .int vq5_]) (rest := [.int 0]) hC hK hH (c_X10_draw hc_mo hc_al hFi) mlL_53 (rcvM hK hH hc_mo rfl) ⟨⟨Nat.le_of_ble_eq_true rfl, Nat.le_of_ble_eq_true rfl⟩, Nat.le_of_ble_eq_true rfl, Nat.le_of_ble_eq_true rfl⟩ rfl hl.1 rfl (Nat.le_of_ble_eq_true rfl) dL_law_469) (fun rq13_ Mq11_ Tq12_ Hq_ lcq_ hP hz hH => ?_)
    try dsimp only at hP
    obtain ⟨(⟨cq14_, rfl⟩ | ⟨cq15_, rfl⟩), eT, hfr⟩ := hP
    · skip
      have eT := eT.symm; subst eT
      have hc_ro : Mq11_ ro = some (.inr (7, [.ref w, .ref im, .ref rd, .ref rc, .ref cu])) := (hfr ro n_ro_al).trans hc_ro
      have hc_cs : Mq11_ cs = some (.inl (kA 0, 8, .inl (c100 (fun _ => 0)))) := (hfr cs n_cs_al).trans hc_cs
      have hc_im : Mq11_ im = some (.inl (kA 6, 3, .inr (.inr (.inr (.inr (fun _ => none)))))) := (hfr im n_im_al).trans hc_im
      have hc_rd : Mq11_ rd = some (.inr (3, [.ref nb, .ref vb, .int 0, .int 0, .ref by_, .int 0, .int 0, .int 0, .int 0, .int 0])) := (hfr rd n_rd_al).trans hc_rd
      have hc_mo : Mq11_ mo = some (.inr (8, [.ref al, .ref mt, .ref ii, .int 0, .int (-1), .ref pa, .int 0, .int 0, .int 0, .int 0, .int 0, .long 0, .int 0, .ref li])) := (hfr mo n_mo_al).trans hc_mo
      have hc_ii : Mq11_ ii = some (.inl (kA 2, 3, .inl (fun _ => 0))) := (hfr ii n_ii_al).trans hc_ii
      have cq14_ : 0 ≤ vq1_.toInt ∧ vq1_.toInt ≤ 7 ∧ 0 ≤ vq2_.toInt ∧ vq2_.toInt ≤ 7 ∧ (0 ≤ vq3_.toInt ∧ vq3_.toInt ≤ 7 ∨ 10 ≤ vq3_.toInt ∧ vq3_.toInt ≤ 17) ∧ 1 ≤ vq4_.toInt ∧ vq4_.toInt ≤ 999 ∧ 0 ≤ vq5_.toInt ∧ vq5_.toInt ≤ 99 := cq14_
      refine jic_eq (tgt := 1370) hx hb dL_law_472 (by decide) (fun cq16_ => ?_) (fun cq16_ => absurd cq16_ (by decide))
      exact law_tail C0 hAq hH.2.1 (lv_sub hl [0, 3] rfl) (Nat.le_of_ble_eq_true rfl) (Nat.le_of_ble_eq_true rfl)
    · skip
      have eT := eT.symm; subst eT
      have hc_ro : Mq11_ ro = some (.inr (7, [.ref w, .ref im, .ref rd, .ref rc, .ref cu])) := (hfr ro n_ro_al).trans hc_ro
      have hc_cs : Mq11_ cs = some (.inl (kA 0, 8, .inl (c100 (fun _ => 0)))) := (hfr cs n_cs_al).trans hc_cs
      have hc_im : Mq11_ im = some (.inl (kA 6, 3, .inr (.inr (.inr (.inr (fun _ => none)))))) := (hfr im n_im_al).trans hc_im
      have hc_rd : Mq11_ rd = some (.inr (3, [.ref nb, .ref vb, .int 0, .int 0, .ref by_, .int 0, .int 0, .int 0, .int 0, .int 0])) := (hfr rd n_rd_al).trans hc_rd
      have hc_mo : Mq11_ mo = some (.inr (8, [.ref al, .ref mt, .ref ii, .int 0, .int (-1), .ref pa, .int 0, .int 0, .int 0, .int 0, .int 0, .long 0, .int 0, .ref li])) := (hfr mo n_mo_al).trans hc_mo
      have hc_ii : Mq11_ ii = some (.inl (kA 2, 3, .inl (fun _ => 0))) := (hfr ii n_ii_al).trans hc_ii
      have cq15_ : ¬ (0 ≤ vq1_.toInt ∧ vq1_.toInt ≤ 7 ∧ 0 ≤ vq2_.toInt ∧ vq2_.toInt ≤ 7 ∧ (0 ≤ vq3_.toInt ∧ vq3_.toInt ≤ 7 ∨ 10 ≤ vq3_.toInt ∧ vq3_.toInt ≤ 17) ∧ 1 ≤ vq4_.toInt ∧ vq4_.toInt ≤ 999 ∧ 0 ≤ vq5_.toInt ∧ vq5_.toInt ≤ 99) := cq15_
      exfalso; omega
  · skip
    have eT := eT.symm; subst eT
    have hc_ro : Mq6_ ro = some (.inr (7, [.ref w, .ref im, .ref rd, .ref rc, .ref cu])) := (hfr ro n_ro_w).trans hc_ro
    have hc_cs : Mq6_ cs = some (.inl (kA 0, 8, .inl (c100 (fun _ => 0)))) := (hfr cs n_cs_w).trans hc_cs
    have hc_im : Mq6_ im = some (.inl (kA 6, 3, .inr (.inr (.inr (.inr (fun _ => none)))))) := (hfr im n_im_w).trans hc_im
    have hc_rd : Mq6_ rd = some (.inr (3, [.ref nb, .ref vb, .int 0, .int 0, .ref by_, .int 0, .int 0, .int 0, .int 0, .int 0])) := (hfr rd n_rd_w).trans hc_rd
    have hc_mo : Mq6_ mo = some (.inr (8, [.ref al, .ref mt, .ref ii, .int 0, .int (-1), .ref pa, .int 0, .int 0, .int 0, .int 0, .int 0, .long 0, .int 0, .ref li])) := (hfr mo n_mo_w).trans hc_mo
    have hc_al : Mq6_ al = some (.inl (kA 0, 7506, .inl F)) := (hfr al n_al_w).trans hc_al
    have hc_ii : Mq6_ ii = some (.inl (kA 2, 3, .inl (fun _ => 0))) := (hfr ii n_ii_w).trans hc_ii
    have cq10_ : ¬ (0 ≤ vq1_.toInt ∧ vq1_.toInt ≤ 7 ∧ 0 ≤ vq2_.toInt ∧ vq2_.toInt ≤ 7 ∧ (0 ≤ vq3_.toInt ∧ vq3_.toInt ≤ 7 ∨ 10 ≤ vq3_.toInt ∧ vq3_.toInt ≤ 17) ∧ 1 ≤ vq4_.toInt ∧ vq4_.toInt ≤ 999 ∧ 0 ≤ vq5_.toInt ∧ vq5_.toInt ≤ 99) := cq10_
    refine lv_aload_n hx hb dL_law_443 rfl (lv_at hl 1 rfl) ?_
    refine lv_aload_n hx hb dL_law_444 rfl (lv_at hl 3 rfl) ?_
    refine lv_iload_n hx hb dL_law_445 rfl (lv_at hl 0 rfl) ?_
    refine lv_iconst (v := 1) hx hb dL_law_446 (by decide) ?_
    refine lv_iadd hx hb dL_law_447 ?_
    refine lv_cst (v := 1) (by decide) ?_
    refine va_sld hx hb hX hbl hbA hH.2.1 (iIn (by decide) (by decide)) dL_law_448 ?_
    refine lv_cst (v := vq1_) e_vq1_.symm ?_
    refine lv_aload_n hx hb dL_law_449 rfl (lv_at hl 3 rfl) ?_
    refine lv_iload_n hx hb dL_law_450 rfl (lv_at hl 0 rfl) ?_
    refine lv_iconst (v := 2) hx hb dL_law_451 (by decide) ?_
    refine lv_iadd hx hb dL_law_452 ?_
    refine lv_cst (v := 2) (by decide) ?_
    refine va_sld hx hb hX hbl hbA hH.2.1 (iIn (by decide) (by decide)) dL_law_453 ?_
    refine lv_cst (v := vq2_) e_vq2_.symm ?_
    refine lv_aload_n hx hb dL_law_454 rfl (lv_at hl 3 rfl) ?_
    refine lv_iload_n hx hb dL_law_455 rfl (lv_at hl 0 rfl) ?_
    refine lv_iconst (v := 3) hx hb dL_law_456 (by decide) ?_
    refine lv_iadd hx hb dL_law_457 ?_
    refine lv_cst (v := 3) (by decide) ?_
    refine va_sld hx hb hX hbl hbA hH.2.1 (iIn (by decide) (by decide)) dL_law_458 ?_
    refine lv_cst (v := vq3_) e_vq3_.symm ?_
    refine lv_aload_n hx hb dL_law_459 rfl (lv_at hl 3 rfl) ?_
    refine lv_iload_n hx hb dL_law_460 rfl (lv_at hl 0 rfl) ?_
    refine lv_iconst (v := 4) hx hb dL_law_461 (by decide) ?_
    refine lv_iadd hx hb dL_law_462 ?_
    refine lv_cst (v := 4) (by decide) ?_
    refine va_sld hx hb hX hbl hbA hH.2.1 (iIn (by decide) (by decide)) dL_law_463 ?_
    refine lv_cst (v := vq4_) e_vq4_.symm ?_
    refine lv_aload_n hx hb dL_law_464 rfl (lv_at hl 3 rfl) ?_
    refine lv_iload_n hx hb dL_law_465 rfl (lv_at hl 0 rfl) ?_
    refine lv_iconst (v := 5) hx hb dL_law_466 (by decide) ?_
    refine lv_iadd hx hb dL_law_467 ?_
    refine lv_cst (v := 5) (by decide) ?_
    refine va_sld hx hb hX hbl hbA hH.2.1 (iIn (by decide) (by decide)) dL_law_468 ?_
    refine lv_cst (v := vq5_) e_vq5_.symm ?_
    refine goI hK hH (runV (As := [.int vq1_, .int vq2_, .int vq3_, .int vq4_, .int vq5_]) (rest := [.int (-30)]) hC hK hH (c_X10_draw hc_mo hc_al hFi) mlL_53 (rcvM hK hH hc_mo rfl) ⟨⟨Nat.le_of_ble_eq_true rfl, Nat.le_of_ble_eq_true rfl⟩, Nat.le_of_ble_eq_true rfl, Nat.le_of_ble_eq_true rfl⟩ rfl hl.1 rfl (Nat.le_of_ble_eq_true rfl) dL_law_469) (fun rq19_ Mq17_ Tq18_ Hq_ lcq_ hP hz hH => ?_)
    try dsimp only at hP
    obtain ⟨(⟨cq20_, rfl⟩ | ⟨cq21_, rfl⟩), eT, hfr⟩ := hP
    · skip
      have eT := eT.symm; subst eT
      have hc_ro : Mq17_ ro = some (.inr (7, [.ref w, .ref im, .ref rd, .ref rc, .ref cu])) := (hfr ro n_ro_al).trans hc_ro
      have hc_cs : Mq17_ cs = some (.inl (kA 0, 8, .inl (c100 (fun _ => 0)))) := (hfr cs n_cs_al).trans hc_cs
      have hc_im : Mq17_ im = some (.inl (kA 6, 3, .inr (.inr (.inr (.inr (fun _ => none)))))) := (hfr im n_im_al).trans hc_im
      have hc_rd : Mq17_ rd = some (.inr (3, [.ref nb, .ref vb, .int 0, .int 0, .ref by_, .int 0, .int 0, .int 0, .int 0, .int 0])) := (hfr rd n_rd_al).trans hc_rd
      have hc_mo : Mq17_ mo = some (.inr (8, [.ref al, .ref mt, .ref ii, .int 0, .int (-1), .ref pa, .int 0, .int 0, .int 0, .int 0, .int 0, .long 0, .int 0, .ref li])) := (hfr mo n_mo_al).trans hc_mo
      have hc_ii : Mq17_ ii = some (.inl (kA 2, 3, .inl (fun _ => 0))) := (hfr ii n_ii_al).trans hc_ii
      have cq20_ : 0 ≤ vq1_.toInt ∧ vq1_.toInt ≤ 7 ∧ 0 ≤ vq2_.toInt ∧ vq2_.toInt ≤ 7 ∧ (0 ≤ vq3_.toInt ∧ vq3_.toInt ≤ 7 ∨ 10 ≤ vq3_.toInt ∧ vq3_.toInt ≤ 17) ∧ 1 ≤ vq4_.toInt ∧ vq4_.toInt ≤ 999 ∧ 0 ≤ vq5_.toInt ∧ vq5_.toInt ≤ 99 := cq20_
      exfalso; omega
    · skip
      have eT := eT.symm; subst eT
      have hc_ro : Mq17_ ro = some (.inr (7, [.ref w, .ref im, .ref rd, .ref rc, .ref cu])) := (hfr ro n_ro_al).trans hc_ro
      have hc_cs : Mq17_ cs = some (.inl (kA 0, 8, .inl (c100 (fun _ => 0)))) := (hfr cs n_cs_al).trans hc_cs
      have hc_im : Mq17_ im = some (.inl (kA 6, 3, .inr (.inr (.inr (.inr (fun _ => none)))))) := (hfr im n_im_al).trans hc_im
      have hc_rd : Mq17_ rd = some (.inr (3, [.ref nb, .ref vb, .int 0, .int 0, .ref by_, .int 0, .int 0, .int 0, .int 0, .int 0])) := (hfr rd n_rd_al).trans hc_rd
      have hc_mo : Mq17_ mo = some (.inr (8, [.ref al, .ref mt, .ref ii, .int 0, .int (-1), .ref pa, .int 0, .int 0, .int 0, .int 0, .int 0, .long 0, .int 0, .ref li])) := (hfr mo n_mo_al).trans hc_mo
      have hc_ii : Mq17_ ii = some (.inl (kA 2, 3, .inl (fun _ => 0))) := (hfr ii n_ii_al).trans hc_ii
      have cq21_ : ¬ (0 ≤ vq1_.toInt ∧ vq1_.toInt ≤ 7 ∧ 0 ≤ vq2_.toInt ∧ vq2_.toInt ≤ 7 ∧ (0 ≤ vq3_.toInt ∧ vq3_.toInt ≤ 7 ∨ 10 ≤ vq3_.toInt ∧ vq3_.toInt ≤ 17) ∧ 1 ≤ vq4_.toInt ∧ vq4_.toInt ≤ 999 ∧ 0 ≤ vq5_.toInt ∧ vq5_.toInt ≤ 99) := cq21_
      refine jic_eq (tgt := 1370) hx hb dL_law_472 (by decide) (fun cq22_ => ?_) (fun cq22_ => absurd cq22_ (by decide))
      exact law_tail C0 hAq hH.2.1 (lv_sub hl [0, 3] rfl) (Nat.le_of_ble_eq_true rfl) (Nat.le_of_ble_eq_true rfl)
