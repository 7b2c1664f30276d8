set_option maxHeartbeats 4000000 in
set_option maxRecDepth 100000 in
theorem c_J0_coder_7d493 {z : zD} {l : Launch} {D : va_G} {kA : Nat → ClassId} {M : mM} {T : mT} {sz : Nat} {i : Nat} (hi : i < 21) : mCiB z l yJ0_coder_7d493 cJ0_coder_7d493 1 (some .byte) 0 0 0 D kA M T sz [.ref (zs z i)] (fun r u => (r = 0) ∧ u.2 = T ∧ u.1 = M) := by
  unfold mCiB
  refine start_WB (by decide) (Nat.le_of_ble_eq_true rfl) ?_
  intro p e s m below meth c ls hC hr hlk hnm hK hH hsz hZ hl
  have hx := hC.1
  have hb := hC.2.1
  have hl : lv_has ls 1 [(0, .ref (zs z i))] := hl
  refine va_gets hx hb hZ.1.2.2.2.2.1 hH.2.1 hC.2.2.2.1 (hC.2.2.2.2 _ wsJ0_38) (fun _ h => h) dJ0_coder_7d493_0 ?_
  refine jif_eq (tgt := 13) hx hb dJ0_coder_7d493_3 (by decide) (fun cq1_ => absurd cq1_ (by decide)) (fun cq1_ => ?_)
  refine lv_aload_n hx hb dJ0_coder_7d493_6 rfl (lv_at hl 0 rfl) ?_
  refine vk_getf hx hb (hZ.1.2.2.2.1 i (by omega)).2.1 hH.2.1 hC.2.2.2.1 (hC.2.2.2.2 _ wfJ0_15) (fun _ h => h) dJ0_coder_7d493_7 ?_
  refine lv_goto (tgt := 14) hx hb dJ0_coder_7d493_10 (by decide) ?_
  exact ret_n hC hr hlk hK hH rfl (⟨rfl, rfl, rfl⟩) (Nat.le_of_ble_eq_true rfl) (Nat.le_of_ble_eq_true rfl) dJ0_coder_7d493_14
set_option maxHeartbeats 4000000 in
set_option maxRecDepth 100000 in
theorem c_J0_isLatin1_aae02 {z : zD} {l : Launch} {D : va_G} {kA : Nat → ClassId} {M : mM} {T : mT} {sz : Nat} {i : Nat} (hi : i < 21) : mCiB z l yJ0_isLatin1_aae02 cJ0_isLatin1_aae02 1 (some .boolean) 0 0 0 D kA M T sz [.ref (zs z i)] (fun r u => (r = 1) ∧ u.2 = T ∧ u.1 = M) := by
  unfold mCiB
  refine start_WB (by decide) (Nat.le_of_ble_eq_true rfl) ?_
  intro p e s m below meth c ls hC hr hlk hnm hK hH hsz hZ hl
  have hx := hC.1
  have hb := hC.2.1
  have hl : lv_has ls 1 [(0, .ref (zs z i))] := hl
  refine va_gets hx hb hZ.1.2.2.2.2.1 hH.2.1 hC.2.2.2.1 (hC.2.2.2.2 _ wsJ0_38) (fun _ h => h) dJ0_isLatin1_aae02_0 ?_
  refine jif_eq (tgt := 17) hx hb dJ0_isLatin1_aae02_3 (by decide) (fun cq1_ => absurd cq1_ (by decide)) (fun cq1_ => ?_)
  refine lv_aload_n hx hb dJ0_isLatin1_aae02_6 rfl (lv_at hl 0 rfl) ?_
  refine vk_getf hx hb (hZ.1.2.2.2.1 i (by omega)).2.1 hH.2.1 hC.2.2.2.1 (hC.2.2.2.2 _ wfJ0_15) (fun _ h => h) dJ0_isLatin1_aae02_7 ?_
  refine jif_ne (tgt := 17) hx hb dJ0_isLatin1_aae02_10 (by decide) (fun cq2_ => absurd cq2_ (by decide)) (fun cq2_ => ?_)
  refine lv_iconst (v := 1) hx hb dJ0_isLatin1_aae02_13 (by decide) ?_
  refine lv_goto (tgt := 18) hx hb dJ0_isLatin1_aae02_14 (by decide) ?_
  exact ret_z hC hr hlk hK hH (by first | exact Or.inl rfl | exact Or.inr rfl | assumption) (⟨rfl, rfl, rfl⟩) (Nat.le_of_ble_eq_true rfl) (Nat.le_of_ble_eq_true rfl) dJ0_isLatin1_aae02_18
set_option maxHeartbeats 4000000 in
set_option maxRecDepth 100000 in
theorem c_J0_length_8abf5 {z : zD} {l : Launch} {D : va_G} {kA : Nat → ClassId} {M : mM} {T : mT} {sz : Nat} {i : Nat} (hi : i < 21) : mCiB z l yJ0_length_8abf5 cJ0_length_8abf5 1 (some .int) 1 0 0 D kA M T sz [.ref (zs z i)] (fun r u => (r.toInt = (zLen i : Int) ∧ (((0 : Int) ≤ r.toInt ∧ r.toInt ≤ 8))) ∧ u.2 = T ∧ u.1 = M) := by
  unfold mCiB
  refine start_WB (by decide) (Nat.le_of_ble_eq_true rfl) ?_
  intro p e s m below meth c ls hC hr hlk hnm hK hH hsz hZ hl
  have hx := hC.1
  have hb := hC.2.1
  have hl : lv_has ls 1 [(0, .ref (zs z i))] := hl
  refine lv_aload_n hx hb dJ0_length_8abf5_0 rfl (lv_at hl 0 rfl) ?_
  refine vk_getf hx hb (hZ.1.2.2.2.1 i (by omega)).2.2.1 hH.2.1 hC.2.2.2.1 (hC.2.2.2.2 _ wfJ0_9) (fun _ h => h) dJ0_length_8abf5_1 ?_
  refine va_tlen hx hb (hZ.1.2.2.2.1 i (by omega)).2.2.2 hH.2.1 rfl dJ0_length_8abf5_4 ?_
  refine lv_topi (fun xq1_ e_xq1_ => ?_)
  have lz_xq1_ := zLen_r i
  have h_xq1_ : xq1_.toInt = (zLen i : Int) := by rw [e_xq1_]; exact nI_toInt (by omega)
  refine lv_aload_n hx hb dJ0_length_8abf5_5 rfl (lv_at hl 0 rfl) ?_
  refine goI hK hH (runVB (As := []) (rest := [.int xq1_]) hC hK hH hZ (c_J0_coder_7d493 (by omega)) mlJ0_335 (rcvO (hZ.1.2.2.2.1 i (by omega)).1 hH) ⟨⟨Nat.le_of_ble_eq_true rfl, Nat.le_of_ble_eq_true rfl⟩, Nat.le_of_ble_eq_true rfl, Nat.le_of_ble_eq_true rfl⟩ rfl hl.1 rfl (Nat.le_of_ble_eq_true rfl) dJ0_length_8abf5_6) (fun rq4_ Mq2_ Tq3_ Hq_ lcq_ hP hz hH => ?_)
  try dsimp only at hP
  obtain ⟨(er_rq4_), eT, eM⟩ := hP
  have eT := eT.symm; subst eT
  have er_rq4_ := er_rq4_.symm; subst er_rq4_
  have eM := eM.symm; subst eM
  refine lv_ishr hx hb dJ0_length_8abf5_9 ?_
  refine lv_cst (v := xq1_) (shr0 _) ?_
  exact ret_i hC hr hlk hK hH (⟨⟨by omega, ⟨by omega, by omega⟩⟩, rfl, rfl⟩) (Nat.le_of_ble_eq_true rfl) (Nat.le_of_ble_eq_true rfl) dJ0_length_8abf5_10
set_option maxHeartbeats 4000000 in
set_option maxRecDepth 100000 in
theorem c_J3_checkIndex_8e157_n {l : Launch} {D : va_G} {kA : Nat → ClassId} {M : mM} {T : mT} {sz : Nat} {k n : Int32} (hk : 0 ≤ k.toInt ∧ k.toInt < n.toInt) : mCi l yJ3_checkIndex_8e157 cJ3_checkIndex_8e157 3 (some .int) 0 0 0 D kA M T sz [.int k, .int n, .null] (fun r u => (True) ∧ u.2 = T ∧ u.1 = M) := by
  unfold mCi
  refine start_W (by decide) (Nat.le_of_ble_eq_true rfl) ?_
  intro p e s m below meth c ls hC hr hlk hnm hK hH hsz hl
  have hx := hC.1
  have hb := hC.2.1
  have hl : lv_has ls 3 [(0, .int k), (1, .int n), (2, .null)] := hl
  refine lv_iload_n hx hb dJ3_checkIndex_8e157_0 rfl (lv_at hl 0 rfl) ?_
  refine jif_lt (tgt := 9) hx hb dJ3_checkIndex_8e157_1 (by decide) (fun cq1_ => absurd cq1_ (by have := iRg k; have : (0 : Int32).toInt = 0 := rfl; omega)) (fun cq1_ => ?_)
  have cq1_ : 0 ≤ k.toInt := cq1_
  refine lv_iload_n hx hb dJ3_checkIndex_8e157_4 rfl (lv_at hl 0 rfl) ?_
  refine lv_iload_n hx hb dJ3_checkIndex_8e157_5 rfl (lv_at hl 1 rfl) ?_
  refine jic_lt (tgt := 16) hx hb dJ3_checkIndex_8e157_6 (by decide) (fun cq2_ => ?_) (fun cq2_ => ?_)
  · skip
    have cq2_ : k.toInt < n.toInt := cq2_
    refine lv_iload_n hx hb dJ3_checkIndex_8e157_16 rfl (lv_at hl 0 rfl) ?_
    exact ret_i hC hr hlk hK hH (⟨trivial, rfl, rfl⟩) (Nat.le_of_ble_eq_true rfl) (Nat.le_of_ble_eq_true rfl) dJ3_checkIndex_8e157_17
  · skip
    have cq2_ : n.toInt ≤ k.toInt := cq2_
    exfalso; omega
set_option maxHeartbeats 4000000 in
set_option maxRecDepth 100000 in
theorem c_J3_checkIndex_8e157_r {l : Launch} {D : va_G} {kA : Nat → ClassId} {M : mM} {T : mT} {sz : Nat} {k n : Int32} {fm : Nat} (hk : 0 ≤ k.toInt ∧ k.toInt < n.toInt) : mCi l yJ3_checkIndex_8e157 cJ3_checkIndex_8e157 3 (some .int) 0 0 0 D kA M T sz [.int k, .int n, .ref fm] (fun r u => (True) ∧ u.2 = T ∧ u.1 = M) := by
  unfold mCi
  refine start_W (by decide) (Nat.le_of_ble_eq_true rfl) ?_
  intro p e s m below meth c ls hC hr hlk hnm hK hH hsz hl
  have hx := hC.1
  have hb := hC.2.1
  have hl : lv_has ls 3 [(0, .int k), (1, .int n), (2, .ref fm)] := hl
  refine lv_iload_n hx hb dJ3_checkIndex_8e157_0 rfl (lv_at hl 0 rfl) ?_
  refine jif_lt (tgt := 9) hx hb dJ3_checkIndex_8e157_1 (by decide) (fun cq1_ => absurd cq1_ (by have := iRg k; have : (0 : Int32).toInt = 0 := rfl; omega)) (fun cq1_ => ?_)
  have cq1_ : 0 ≤ k.toInt := cq1_
  refine lv_iload_n hx hb dJ3_checkIndex_8e157_4 rfl (lv_at hl 0 rfl) ?_
  refine lv_iload_n hx hb dJ3_checkIndex_8e157_5 rfl (lv_at hl 1 rfl) ?_
  refine jic_lt (tgt := 16) hx hb dJ3_checkIndex_8e157_6 (by decide) (fun cq2_ => ?_) (fun cq2_ => ?_)
  · skip
    have cq2_ : k.toInt < n.toInt := cq2_
    refine lv_iload_n hx hb dJ3_checkIndex_8e157_16 rfl (lv_at hl 0 rfl) ?_
    exact ret_i hC hr hlk hK hH (⟨trivial, rfl, rfl⟩) (Nat.le_of_ble_eq_true rfl) (Nat.le_of_ble_eq_true rfl) dJ3_checkIndex_8e157_17
  · skip
    have cq2_ : n.toInt ≤ k.toInt := cq2_
    exfalso; omega
set_option maxHeartbeats 4000000 in
set_option maxRecDepth 100000 in
theorem c_J0_checkIndex_df160 {z : zD} {l : Launch} {D : va_G} {kA : Nat → ClassId} {M : mM} {T : mT} {sz : Nat} {k n : Int32} (hk : 0 ≤ k.toInt ∧ k.toInt < n.toInt) : mCvB z l yJ0_checkIndex_df160 cJ0_checkIndex_df160 2 1 0 0 D kA M T sz [.int k, .int n] (fun u => (True) ∧ u.2 = T ∧ u.1 = M) := by
  unfold mCvB
  refine start_WB (by decide) (Nat.le_of_ble_eq_true rfl) ?_
  intro p e s m below meth c ls hC hr hlk hnm hK hH hsz hZ hl
  have hx := hC.1
  have hb := hC.2.1
  have hl : lv_has ls 2 [(0, .int k), (1, .int n)] := hl
  refine lv_iload_n hx hb dJ0_checkIndex_df160_0 rfl (lv_at hl 0 rfl) ?_
  refine lv_iload_n hx hb dJ0_checkIndex_df160_1 rfl (lv_at hl 1 rfl) ?_
  rcases hZ.1.2.2.2.2.2.1 with hq | ⟨tq, hq⟩
  · skip
    refine va_gets hx hb hq hH.2.1 hC.2.2.2.1 (hC.2.2.2.2 _ wsJ0_1053) (fun _ h => h) dJ0_checkIndex_df160_2 ?_
    refine goI hK hH (runS (As := [.int k, .int n, .null]) (rest := []) hC hK hH (c_J3_checkIndex_8e157_n (by omega)) mlJ0_1059 ⟨⟨Nat.le_of_ble_eq_true rfl, Nat.le_of_ble_eq_true rfl⟩, Nat.le_of_ble_eq_true rfl, Nat.le_of_ble_eq_true rfl⟩ rfl hl.1 rfl (Nat.le_of_ble_eq_true rfl) dJ0_checkIndex_df160_5) (fun rq3_ Mq1_ Tq2_ Hq_ lcq_ hP hz hH => ?_)
    try dsimp only at hP
    obtain ⟨(-), eT, eM⟩ := hP
    have eT := eT.symm; subst eT
    have eM := eM.symm; subst eM
    refine lv_pop hx hb dJ0_checkIndex_df160_8 rfl ?_
    exact ret_v hC hr hlk hK hH (⟨trivial, rfl, rfl⟩) (Nat.le_of_ble_eq_true rfl) (Nat.le_of_ble_eq_true rfl) dJ0_checkIndex_df160_9
  · skip
    refine va_gets hx hb hq hH.2.1 hC.2.2.2.1 (hC.2.2.2.2 _ wsJ0_1053) (fun _ h => h) dJ0_checkIndex_df160_2 ?_
    refine goI hK hH (runS (As := [.int k, .int n, .ref tq]) (rest := []) hC hK hH (c_J3_checkIndex_8e157_r (by omega)) mlJ0_1059 ⟨⟨Nat.le_of_ble_eq_true rfl, Nat.le_of_ble_eq_true rfl⟩, Nat.le_of_ble_eq_true rfl, Nat.le_of_ble_eq_true rfl⟩ rfl hl.1 rfl (Nat.le_of_ble_eq_true rfl) dJ0_checkIndex_df160_5) (fun rq6_ Mq4_ Tq5_ Hq_ lcq_ hP hz hH => ?_)
    try dsimp only at hP
    obtain ⟨(-), eT, eM⟩ := hP
    have eT := eT.symm; subst eT
    have eM := eM.symm; subst eM
    refine lv_pop hx hb dJ0_checkIndex_df160_8 rfl ?_
    exact ret_v hC hr hlk hK hH (⟨trivial, rfl, rfl⟩) (Nat.le_of_ble_eq_true rfl) (Nat.le_of_ble_eq_true rfl) dJ0_checkIndex_df160_9
set_option maxHeartbeats 4000000 in
set_option maxRecDepth 100000 in
theorem c_J1_charAt_3b067 {z : zD} {l : Launch} {D : va_G} {kA : Nat → ClassId} {M : mM} {T : mT} {sz : Nat} {i : Nat} {k : Int32} (hi : i < 21) (hk : 0 ≤ k.toInt ∧ k.toInt < (zLen i : Int)) : mCiB z l yJ1_charAt_3b067 cJ1_charAt_3b067 2 (some .char) 2 0 0 D kA M T sz [.ref (zb z i), .int k] (fun r u => (narrow .char (.int r) = .int r) ∧ u.2 = T ∧ u.1 = M) := by
  unfold mCiB
  refine start_WB (by decide) (Nat.le_of_ble_eq_true rfl) ?_
  intro p e s m below meth c ls hC hr hlk hnm hK hH hsz hZ hl
  have hx := hC.1
  have hb := hC.2.1
  have hl : lv_has ls 2 [(0, .ref (zb z i)), (1, .int k)] := hl
  refine lv_iload_n hx hb dJ1_charAt_3b067_0 rfl (lv_at hl 1 rfl) ?_
  refine lv_aload_n hx hb dJ1_charAt_3b067_1 rfl (lv_at hl 0 rfl) ?_
  refine va_tlen hx hb (hZ.1.2.2.2.1 i (by omega)).2.2.2 hH.2.1 rfl dJ1_charAt_3b067_2 ?_
  refine lv_topi (fun xq1_ e_xq1_ => ?_)
  have lz_xq1_ := zLen_r i
  have h_xq1_ : xq1_.toInt = (zLen i : Int) := by rw [e_xq1_]; exact nI_toInt (by omega)
  refine goV hK hH (runSB (As := [.int k, .int xq1_]) (rest := []) hC hK hH hZ (c_J0_checkIndex_df160 (by omega)) mlJ1_9 ⟨⟨Nat.le_of_ble_eq_true rfl, Nat.le_of_ble_eq_true rfl⟩, Nat.le_of_ble_eq_true rfl, Nat.le_of_ble_eq_true rfl⟩ rfl hl.1 rfl (Nat.le_of_ble_eq_true rfl) dJ1_charAt_3b067_3) (fun Mq2_ Tq3_ Hq_ lcq_ hP hz hH => ?_)
  try dsimp only at hP
  obtain ⟨(-), eT, eM⟩ := hP
  have eT := eT.symm; subst eT
  have eM := eM.symm; subst eM
  refine lv_aload_n hx hb dJ1_charAt_3b067_6 rfl (lv_at hl 0 rfl) ?_
  refine lv_iload_n hx hb dJ1_charAt_3b067_7 rfl (lv_at hl 1 rfl) ?_
  refine va_tb hx hb (hZ.1.2.2.2.1 i (by omega)).2.2.2 hH.2.1 (iIn (by omega) (by omega)) rfl dJ1_charAt_3b067_8 ?_
  refine lv_topi (fun xq5_ e_xq5_ => ?_)
  refine lv_sipush (v := 255) hx hb dJ1_charAt_3b067_9 (by decide) ?_
  refine lv_iand hx hb dJ1_charAt_3b067_12 ?_
  refine lv_topi (fun zq6_ e_zq6_ => ?_)
  refine lv_i2c hx hb dJ1_charAt_3b067_13 rfl ?_
  refine lv_topi (fun zq7_ e_zq7_ => ?_)
  have n_zq7_ : narrow .char (.int zq7_) = .int zq7_ := by rw [e_zq7_]; exact nar_c _
  exact ret_n hC hr hlk hK hH n_zq7_ (⟨n_zq7_, rfl, rfl⟩) (Nat.le_of_ble_eq_true rfl) (Nat.le_of_ble_eq_true rfl) dJ1_charAt_3b067_14
set_option maxHeartbeats 4000000 in
set_option maxRecDepth 100000 in
theorem c_J0_charAt_5068e {z : zD} {l : Launch} {D : va_G} {kA : Nat → ClassId} {M : mM} {T : mT} {sz : Nat} {i : Nat} {k : Int32} (hi : i < 21) (hk : 0 ≤ k.toInt ∧ k.toInt < (zLen i : Int)) : mCiB z l yJ0_charAt_5068e cJ0_charAt_5068e 2 (some .char) 3 0 0 D kA M T sz [.ref (zs z i), .int k] (fun r u => (narrow .char (.int r) = .int r) ∧ u.2 = T ∧ u.1 = M) := by
  unfold mCiB
  refine start_WB (by decide) (Nat.le_of_ble_eq_true rfl) ?_
  intro p e s m below meth c ls hC hr hlk hnm hK hH hsz hZ hl
  have hx := hC.1
  have hb := hC.2.1
  have hl : lv_has ls 2 [(0, .ref (zs z i)), (1, .int k)] := hl
  refine lv_aload_n hx hb dJ0_charAt_5068e_0 rfl (lv_at hl 0 rfl) ?_
  refine goI hK hH (runVB (As := []) (rest := []) hC hK hH hZ (c_J0_isLatin1_aae02 (by omega)) mlJ0_492 (rcvO (hZ.1.2.2.2.1 i (by omega)).1 hH) ⟨⟨Nat.le_of_ble_eq_true rfl, Nat.le_of_ble_eq_true rfl⟩, Nat.le_of_ble_eq_true rfl, Nat.le_of_ble_eq_true rfl⟩ rfl hl.1 rfl (Nat.le_of_ble_eq_true rfl) dJ0_charAt_5068e_1) (fun rq3_ Mq1_ Tq2_ Hq_ lcq_ hP hz hH => ?_)
  try dsimp only at hP
  obtain ⟨(er_rq3_), eT, eM⟩ := hP
  have eT := eT.symm; subst eT
  have er_rq3_ := er_rq3_.symm; subst er_rq3_
  have eM := eM.symm; subst eM
  refine jif_eq (tgt := 16) hx hb dJ0_charAt_5068e_4 (by decide) (fun cq4_ => absurd cq4_ (by decide)) (fun cq4_ => ?_)
  refine lv_aload_n hx hb dJ0_charAt_5068e_7 rfl (lv_at hl 0 rfl) ?_
  refine vk_getf hx hb (hZ.1.2.2.2.1 i (by omega)).2.2.1 hH.2.1 hC.2.2.2.1 (hC.2.2.2.2 _ wfJ0_9) (fun _ h => h) dJ0_charAt_5068e_8 ?_
  refine lv_iload_n hx hb dJ0_charAt_5068e_11 rfl (lv_at hl 1 rfl) ?_
  refine goI hK hH (runSB (As := [.ref (zb z i), .int k]) (rest := []) hC hK hH hZ (c_J1_charAt_3b067 (by omega) (by omega)) mlJ0_495 ⟨⟨Nat.le_of_ble_eq_true rfl, Nat.le_of_ble_eq_true rfl⟩, Nat.le_of_ble_eq_true rfl, Nat.le_of_ble_eq_true rfl⟩ rfl hl.1 rfl (Nat.le_of_ble_eq_true rfl) dJ0_charAt_5068e_12) (fun rq7_ Mq5_ Tq6_ Hq_ lcq_ hP hz hH => ?_)
  try dsimp only at hP
  obtain ⟨(cq8_), eT, eM⟩ := hP
  have eT := eT.symm; subst eT
  have eM := eM.symm; subst eM
  have cq8_ : narrow .char (.int rq7_) = .int rq7_ := cq8_
  exact ret_n hC hr hlk hK hH cq8_ (⟨cq8_, rfl, rfl⟩) (Nat.le_of_ble_eq_true rfl) (Nat.le_of_ble_eq_true rfl) dJ0_charAt_5068e_15
