/-! THE MODEL: answers that change nothing -/
section XM10
variable {E : xt_Ev} {l : Launch} {S : xt_St}
/-- a call of the model that changes nothing that lasts -/
def xt_mr (S : xt_St) (code : Nat) (T : xt_St) : Prop := ((∀ i f, (i ≠ 49 ∨ (f ≠ 0 ∧ f ≠ 16 ∧ f ≠ 17 ∧ f ≠ 18)) → T.1 i f = S.1 i f) ∧ (∀ i, (i < 57 ∨ 63 < i) → T.2.1 i = S.2.1 i) ∧ (∀ i, i ≠ 64 → i ≠ 65 → T.2.2.1 i = S.2.2.1 i) ∧ T.2.2.2 = S.2.2.2) ∧ T.1 49 0 = nI code
theorem xt_sN_o {S : xt_St} {i f j g : Nat} {z : Int32} (h : ¬ (j = i ∧ g = f)) : (xt_sN S i f z).1 j g = S.1 j g := by simp [xt_sN, h]
theorem xt_mr_0 {S T : xt_St} {code : Nat} (h : xt_mfr (xt_sN S 49 0 (nI code)) T) : xt_mr S code T :=
  ⟨⟨fun i f hi => (h.1 i f (by omega)).trans (xt_sN_o (by omega)), h.2.1, h.2.2.1, h.2.2.2⟩, (h.1 49 0 (by omega)).trans (by simp [xt_sN])⟩
theorem xt_mr_x {S T : xt_St} {code : Nat} {z : Int32} (h : xt_mfr (xt_sN S 49 0 z) T) : xt_mr S code (xt_sN T 49 0 (nI code)) :=
  ⟨⟨fun i f hi => (xt_sN_o (by omega)).trans ((h.1 i f (by omega)).trans (xt_sN_o (by omega))), h.2.1, h.2.2.1, h.2.2.2⟩, by simp [xt_sN]⟩
set_option maxRecDepth 20000 in
set_option maxHeartbeats 2000000 in
theorem ct_mthrown {x : Int32} (hx : S.1 49 0 = x) : xt_Ct E l yX6_thrown cX6_thrown 1 (some Jvm.ClassFile.FieldType.int) 0 0 0 0 [.ref (E.1 49)] S (xt_Eq (some (.int x)) S) := by
  refine xt_body (by decide +kernel) (xt_all rfl) (Nat.le_of_ble_eq_true rfl) (fun cx C hl9 => ?_)
  show xt_X E cx _ 0 0 0 [some (.ref (E.1 49))] [] S
  refine xt_aload_n C dX6_thrown_0 rfl ?_
  refine xt_get (f := 0) C xt_u6 rfl (by decide) (xt_cl49 _ _) (by decide) lkX6_74 (xt_vI hx) dX6_thrown_1 ?_
  exact xt_iret C dX6_thrown_4 ⟨by decide, by decide⟩ ⟨rfl, rfl⟩
set_option maxRecDepth 20000 in
set_option maxHeartbeats 2000000 in
theorem ct_mpixel {c r sd lv bo : Nat} (hM : xt_Mp S c r sd lv bo) {v : Nat → Int32} (hvv : ∀ j, j < 256 → xt_mV S j = v j) {x y : Nat} (hx : x < c) (hy : y < r) : xt_Ct E l yX6_pixel cX6_pixel 3 (some Jvm.ClassFile.FieldType.int) 2 44 0 0 [.ref (E.1 49), .int (nI x), .int (nI y)] S (xt_Ep (some (.int (v (y * c + x)))) (xt_mr S 0)) := by
  refine xt_body (by decide +kernel) (xt_all rfl) (Nat.le_of_ble_eq_true rfl) (fun cx C hl9 => ?_)
  show xt_X E cx _ 0 0 0 [some (.ref (E.1 49)), some (.int (nI x)), some (.int (nI y))] [] S
  have hM9 := hM
  obtain ⟨hc, hr, hs, hv, hb, b1, b2, b3, b4, b5, b6, b7⟩ := hM
  refine xt_aload_n C dX6_pixel_0 rfl ?_
  refine xt_iconst (v := nI 0) C dX6_pixel_1 rfl ?_
  refine xt_put (f := 0) C xt_u6 rfl (by decide) (xt_cl49 _ _) (by decide) tyX6 tyX6_ok nmX6 lkX6_74 rfl (tyX6_ok 0 (by decide)) rfl rfl (Nat.le_of_ble_eq_true rfl) rfl dX6_pixel_2 ?_
  refine xt_aload_n C dX6_pixel_5 rfl ?_
  refine xt_iload_n C dX6_pixel_6 rfl ?_
  refine xt_iload_n C dX6_pixel_7 rfl ?_
  refine xt_cV C mv_X6_isPixel lkX6_158 (ct_isPixel (by exact hM9)) rfl (by decide) (xt_cl49 _ _) rfl (by decide) rfl (Nat.le_of_ble_eq_true rfl) dX6_pixel_8 ?_
  refine xt_if_eqB (tgt := 23) C dX6_pixel_11 (by decide) (fun c11 => ?_) (fun c11 => ?_)
  · exact absurd ⟨⟨x, hx, rfl⟩, y, hy, rfl⟩ c11
  · refine xt_aload_n C dX6_pixel_14 rfl ?_
    refine xt_iload_n C dX6_pixel_15 rfl ?_
    refine xt_iload_n C dX6_pixel_16 rfl ?_
    refine xt_cV C mv_X6_value lkX6_119 (ct_mvalue (by exact hM9) (xt_ix hx hy b2 b4).1) rfl (by decide) (xt_cl49 _ _) rfl (by decide) rfl (Nat.le_of_ble_eq_true rfl) dX6_pixel_17 ?_
    rw [show xt_mV (xt_sN S 49 0 (nI 0)) (y * c + x) = v (y * c + x) from hvv _ (xt_ix hx hy b2 b4).1]
    refine xt_goto (tgt := 28) C dX6_pixel_20 (by decide) ?_
    exact xt_iret C dX6_pixel_28 ⟨by decide, by decide⟩ ⟨rfl, xt_mr_0 xt_mfr_rf⟩
set_option maxRecDepth 20000 in
set_option maxHeartbeats 2000000 in
theorem ct_mpixel_b {c r sd lv bo : Nat} (hM : xt_Mp S c r sd lv bo) {x y : Int32} (hbad : ¬ xt_pix c r x y) : xt_Ct E l yX6_pixel cX6_pixel 3 (some Jvm.ClassFile.FieldType.int) 2 44 0 0 [.ref (E.1 49), .int x, .int y] S (xt_Ep (some (.int (nI 0))) (xt_mr S 1)) := by
  refine xt_body (by decide +kernel) (xt_all rfl) (Nat.le_of_ble_eq_true rfl) (fun cx C hl9 => ?_)
  show xt_X E cx _ 0 0 0 [some (.ref (E.1 49)), some (.int x), some (.int y)] [] S
  have hM9 := hM
  obtain ⟨hc, hr, hs, hv, hb, b1, b2, b3, b4, b5, b6, b7⟩ := hM
  refine xt_aload_n C dX6_pixel_0 rfl ?_
  refine xt_iconst (v := nI 0) C dX6_pixel_1 rfl ?_
  refine xt_put (f := 0) C xt_u6 rfl (by decide) (xt_cl49 _ _) (by decide) tyX6 tyX6_ok nmX6 lkX6_74 rfl (tyX6_ok 0 (by decide)) rfl rfl (Nat.le_of_ble_eq_true rfl) rfl dX6_pixel_2 ?_
  refine xt_aload_n C dX6_pixel_5 rfl ?_
  refine xt_iload_n C dX6_pixel_6 rfl ?_
  refine xt_iload_n C dX6_pixel_7 rfl ?_
  refine xt_cV C mv_X6_isPixel lkX6_158 (ct_isPixel (by exact hM9)) rfl (by decide) (xt_cl49 _ _) rfl (by decide) rfl (Nat.le_of_ble_eq_true rfl) dX6_pixel_8 ?_
  refine xt_if_eqB (tgt := 23) C dX6_pixel_11 (by decide) (fun c11 => ?_) (fun c11 => ?_)
  · refine xt_aload_n C dX6_pixel_23 rfl ?_
    refine xt_iconst (v := nI 1) C dX6_pixel_24 rfl ?_
    refine xt_cV C mv_X6_raises lkX6_142 ct_mraises rfl (by decide) (xt_cl49 _ _) rfl (by decide) rfl (Nat.le_of_ble_eq_true rfl) dX6_pixel_25 ?_
    exact xt_iret C dX6_pixel_28 ⟨by decide, by decide⟩ ⟨rfl, xt_mr_x xt_mfr_rf⟩
  · exact absurd c11 hbad
set_option maxRecDepth 20000 in
set_option maxHeartbeats 2000000 in
theorem ct_mtileOf {c r sd lv bo : Nat} (hM : xt_Mp S c r sd lv bo) {x y : Nat} (hx : x < c) (hy : y < r) : xt_Ct E l yX6_tileOf cX6_tileOf 3 (some Jvm.ClassFile.FieldType.int) 2 44 0 0 [.ref (E.1 49), .int (nI x), .int (nI y)] S (xt_Ep (some (.int (nI (y / sd * xt_ac c sd + x / sd)))) (xt_mr S 0)) := by
  refine xt_body (by decide +kernel) (xt_all rfl) (Nat.le_of_ble_eq_true rfl) (fun cx C hl9 => ?_)
  show xt_X E cx _ 0 0 0 [some (.ref (E.1 49)), some (.int (nI x)), some (.int (nI y))] [] S
  have hM9 := hM
  obtain ⟨hc, hr, hs, hv, hb, b1, b2, b3, b4, b5, b6, b7⟩ := hM
  refine xt_aload_n C dX6_tileOf_0 rfl ?_
  refine xt_iconst (v := nI 0) C dX6_tileOf_1 rfl ?_
  refine xt_put (f := 0) C xt_u6 rfl (by decide) (xt_cl49 _ _) (by decide) tyX6 tyX6_ok nmX6 lkX6_74 rfl (tyX6_ok 0 (by decide)) rfl rfl (Nat.le_of_ble_eq_true rfl) rfl dX6_tileOf_2 ?_
  refine xt_aload_n C dX6_tileOf_5 rfl ?_
  refine xt_iload_n C dX6_tileOf_6 rfl ?_
  refine xt_iload_n C dX6_tileOf_7 rfl ?_
  refine xt_cV C mv_X6_isPixel lkX6_158 (ct_isPixel (by exact hM9)) rfl (by decide) (xt_cl49 _ _) rfl (by decide) rfl (Nat.le_of_ble_eq_true rfl) dX6_tileOf_8 ?_
  refine xt_if_eqB (tgt := 39) C dX6_tileOf_11 (by decide) (fun c11 => ?_) (fun c11 => ?_)
  · exact absurd ⟨⟨x, hx, rfl⟩, y, hy, rfl⟩ c11
  · refine xt_iload_n C dX6_tileOf_14 rfl ?_
    refine xt_aload_n C dX6_tileOf_15 rfl ?_
    refine xt_get (f := 1) C xt_u6 rfl (by decide) (xt_cl49 _ _) (by decide) lkX6_9 rfl dX6_tileOf_16 ?_
    refine xt_iconst (v := nI 2) C dX6_tileOf_19 rfl ?_
    refine xt_ialdN C (by decide) (xt_cl50 _) (by decide) (by decide) hs dX6_tileOf_20 ?_
    refine xt_idivN C dX6_tileOf_21 (by omega) (by omega) (by omega) ?_
    refine xt_aload_n C dX6_tileOf_22 rfl ?_
    refine xt_cV C mv_X6_across lkX6_88 (ct_macross (by exact hM9)) rfl (by decide) (xt_cl49 _ _) rfl (by decide) rfl (Nat.le_of_ble_eq_true rfl) dX6_tileOf_23 ?_
    refine xt_imulN C dX6_tileOf_26 ?_
    refine xt_iload_n C dX6_tileOf_27 rfl ?_
    refine xt_aload_n C dX6_tileOf_28 rfl ?_
    refine xt_get (f := 1) C xt_u6 rfl (by decide) (xt_cl49 _ _) (by decide) lkX6_9 rfl dX6_tileOf_29 ?_
    refine xt_iconst (v := nI 2) C dX6_tileOf_32 rfl ?_
    refine xt_ialdN C (by decide) (xt_cl50 _) (by decide) (by decide) hs dX6_tileOf_33 ?_
    refine xt_idivN C dX6_tileOf_34 (by omega) (by omega) (by omega) ?_
    refine xt_iaddN C dX6_tileOf_35 ?_
    refine xt_goto (tgt := 44) C dX6_tileOf_36 (by decide) ?_
    exact xt_iret C dX6_tileOf_44 ⟨by decide, by decide⟩ ⟨rfl, xt_mr_0 xt_mfr_rf⟩
set_option maxRecDepth 20000 in
set_option maxHeartbeats 2000000 in
theorem ct_mtileOf_b {c r sd lv bo : Nat} (hM : xt_Mp S c r sd lv bo) {x y : Int32} (hbad : ¬ xt_pix c r x y) : xt_Ct E l yX6_tileOf cX6_tileOf 3 (some Jvm.ClassFile.FieldType.int) 2 44 0 0 [.ref (E.1 49), .int x, .int y] S (xt_Ep (some (.int (nI 0))) (xt_mr S 1)) := by
  refine xt_body (by decide +kernel) (xt_all rfl) (Nat.le_of_ble_eq_true rfl) (fun cx C hl9 => ?_)
  show xt_X E cx _ 0 0 0 [some (.ref (E.1 49)), some (.int x), some (.int y)] [] S
  have hM9 := hM
  obtain ⟨hc, hr, hs, hv, hb, b1, b2, b3, b4, b5, b6, b7⟩ := hM
  refine xt_aload_n C dX6_tileOf_0 rfl ?_
  refine xt_iconst (v := nI 0) C dX6_tileOf_1 rfl ?_
  refine xt_put (f := 0) C xt_u6 rfl (by decide) (xt_cl49 _ _) (by decide) tyX6 tyX6_ok nmX6 lkX6_74 rfl (tyX6_ok 0 (by decide)) rfl rfl (Nat.le_of_ble_eq_true rfl) rfl dX6_tileOf_2 ?_
  refine xt_aload_n C dX6_tileOf_5 rfl ?_
  refine xt_iload_n C dX6_tileOf_6 rfl ?_
  refine xt_iload_n C dX6_tileOf_7 rfl ?_
  refine xt_cV C mv_X6_isPixel lkX6_158 (ct_isPixel (by exact hM9)) rfl (by decide) (xt_cl49 _ _) rfl (by decide) rfl (Nat.le_of_ble_eq_true rfl) dX6_tileOf_8 ?_
  refine xt_if_eqB (tgt := 39) C dX6_tileOf_11 (by decide) (fun c11 => ?_) (fun c11 => ?_)
  · refine xt_aload_n C dX6_tileOf_39 rfl ?_
    refine xt_iconst (v := nI 1) C dX6_tileOf_40 rfl ?_
    refine xt_cV C mv_X6_raises lkX6_142 ct_mraises rfl (by decide) (xt_cl49 _ _) rfl (by decide) rfl (Nat.le_of_ble_eq_true rfl) dX6_tileOf_41 ?_
    exact xt_iret C dX6_tileOf_44 ⟨by decide, by decide⟩ ⟨rfl, xt_mr_x xt_mfr_rf⟩
  · exact absurd c11 hbad
set_option maxRecDepth 20000 in
set_option maxHeartbeats 2000000 in
theorem ct_mhasPlace {c r sd lv bo : Nat} (hM : xt_Mp S c r sd lv bo) {t : Nat} (ht : t < xt_nt c r sd) {v k : Nat → Int32} (hvv : ∀ j, j < 256 → xt_mV S j = v j) (hkk : ∀ j, j < 256 → xt_mK S j = k j) (hvr : ∀ j, j < 256 → ∃ m, m ≤ 255 ∧ v j = nI m) (hk : ∀ j, j < 256 → k j = nI 0 ∨ k j = nI 1) {x y : Int32} : xt_Ct E l yX6_hasPlace cX6_hasPlace 4 (some Jvm.ClassFile.FieldType.boolean) 4 84 0 0 [.ref (E.1 49), .int (nI t), .int x, .int y] S (xt_Ep (some (.int (xt_b (xt_pix (xt_gw c sd t) (xt_gh c r sd t) x y)))) (fun S9 => xt_mfr S S9 ∧ xt_ML S9 c r sd lv t v k)) := by
  refine xt_body (by decide +kernel) (xt_all rfl) (Nat.le_of_ble_eq_true rfl) (fun cx C hl9 => ?_)
  show xt_X E cx _ 0 0 0 [some (.ref (E.1 49)), some (.int (nI t)), some (.int x), some (.int y)] [] S
  have hM9 := hM
  obtain ⟨hc, hr, hs, hv, hb, b1, b2, b3, b4, b5, b6, b7⟩ := hM
  have hn := xt_nt_b ⟨b1, b2⟩ ⟨b3, b4⟩ b5
  have hT := xt_tile_b ⟨b1, b2⟩ ⟨b3, b4⟩ b5 ht
  have hdl : (xt_tD c r sd lv t) ≤ 3 := xt_dep_le.2
  have hk9 : ∀ j, j < 256 → xt_mK S j = nI 0 ∨ xt_mK S j = nI 1 := fun j hj => by rw [hkk j hj]; exact hk j hj
  refine xt_aload_n C dX6_hasPlace_0 rfl ?_
  refine xt_iload_n C dX6_hasPlace_1 rfl ?_
  refine xt_cV C mv_X6_isTile lkX6_165 (ct_isTile (by exact hM9)) rfl (by decide) (xt_cl49 _ _) rfl (by decide) rfl (Nat.le_of_ble_eq_true rfl) dX6_hasPlace_2 ?_
  refine xt_if_neB (tgt := 10) C dX6_hasPlace_5 (by decide) (fun c5 => ?_) (fun c5 => ?_)
  · refine xt_aload_n C dX6_hasPlace_10 rfl ?_
    refine xt_iload_n C dX6_hasPlace_11 rfl ?_
    refine xt_cVpn C mv_X6_looks lkX6_169 (ct_looks (by exact hM9) ht (by exact hk9)) rfl (by decide) (xt_cl49 _ _) rfl (by decide) rfl (Nat.le_of_ble_eq_true rfl) dX6_hasPlace_12 (fun S9 hq9 => ?_)
    obtain ⟨hfr, hL0⟩ := hq9
    have hL := xt_ML_c ⟨b1, b2⟩ ⟨b3, b4⟩ b5 ht hvv hkk hL0
    rename xt_St => T1
    have hMt := hL.1
    obtain ⟨m1, m2, m3, m4, g1, g2, g3, g4, g5, g6, g7⟩ := id hMt
    refine xt_iload_n C dX6_hasPlace_15 rfl ?_
    refine xt_iconst (v := nI 0) C dX6_hasPlace_16 rfl ?_
    refine xt_aload_n C dX6_hasPlace_17 rfl ?_
    refine xt_get (f := 19) C xt_u6 rfl (by decide) (xt_cl49 _ _) (by decide) lkX6_38 rfl dX6_hasPlace_18 ?_
    refine xt_iconst (v := nI 0) C dX6_hasPlace_21 rfl ?_
    refine xt_ialdN C (by decide) (xt_cl57 _) (by decide) (by decide) (show T1.2.1 57 0 = nI (xt_gw c sd t) from by rw [(m4 0 (by omega)).1, xt_lo_0]) dX6_hasPlace_22 ?_
    refine xt_iconst (v := nI 1) C dX6_hasPlace_23 rfl ?_
    refine xt_isubN C dX6_hasPlace_24 (by omega) ?_
    refine xt_cS C ms_X6_in lkX6_81 ct_in rfl (by decide) rfl (Nat.le_of_ble_eq_true rfl) dX6_hasPlace_25 ?_
    refine xt_if_eqB (tgt := 51) C dX6_hasPlace_28 (by decide) (fun c28 => ?_) (fun c28 => ?_)
    · have hno : ¬ xt_pix (xt_gw c sd t) (xt_gh c r sd t) x y := fun z => c28 ((xt_btw1 (by omega) (by omega)).mpr z.1)
      refine xt_iconst (v := nI 0) C dX6_hasPlace_51 rfl ?_
      refine xt_zret C dX6_hasPlace_52 (by decide) ⟨by decide, by decide⟩ ?_
      first
      | exact ⟨(xt_q0 (S := S) hno).1, hfr, hL⟩
      | exact ⟨(xt_q1 (S := S) hyes).1, hfr, hL⟩
    · refine xt_iload_n C dX6_hasPlace_31 rfl ?_
      refine xt_iconst (v := nI 0) C dX6_hasPlace_32 rfl ?_
      refine xt_aload_n C dX6_hasPlace_33 rfl ?_
      refine xt_get (f := 20) C xt_u6 rfl (by decide) (xt_cl49 _ _) (by decide) lkX6_41 rfl dX6_hasPlace_34 ?_
      refine xt_iconst (v := nI 0) C dX6_hasPlace_37 rfl ?_
      refine xt_ialdN C (by decide) (xt_cl58 _) (by decide) (by decide) (show T1.2.1 58 0 = nI (xt_gh c r sd t) from by rw [(m4 0 (by omega)).2, xt_lo_0]) dX6_hasPlace_38 ?_
      refine xt_iconst (v := nI 1) C dX6_hasPlace_39 rfl ?_
      refine xt_isubN C dX6_hasPlace_40 (by omega) ?_
      refine xt_cS C ms_X6_in lkX6_81 ct_in rfl (by decide) rfl (Nat.le_of_ble_eq_true rfl) dX6_hasPlace_41 ?_
      refine xt_if_eqB (tgt := 51) C dX6_hasPlace_44 (by decide) (fun c44 => ?_) (fun c44 => ?_)
      · have hno : ¬ xt_pix (xt_gw c sd t) (xt_gh c r sd t) x y := fun z => c44 ((xt_btw1 (by omega) (by omega)).mpr z.2)
        refine xt_iconst (v := nI 0) C dX6_hasPlace_51 rfl ?_
        refine xt_zret C dX6_hasPlace_52 (by decide) ⟨by decide, by decide⟩ ?_
        first
        | exact ⟨(xt_q0 (S := S) hno).1, hfr, hL⟩
        | exact ⟨(xt_q1 (S := S) hyes).1, hfr, hL⟩
      · have hyes : xt_pix (xt_gw c sd t) (xt_gh c r sd t) x y := ⟨(xt_btw1 (by omega) (by omega)).mp c28, (xt_btw1 (by omega) (by omega)).mp c44⟩
        refine xt_iconst (v := nI 1) C dX6_hasPlace_47 rfl ?_
        refine xt_goto (tgt := 52) C dX6_hasPlace_48 (by decide) ?_
        refine xt_zret C dX6_hasPlace_52 (by decide) ⟨by decide, by decide⟩ ?_
        first
        | exact ⟨(xt_q0 (S := S) hno).1, hfr, hL⟩
        | exact ⟨(xt_q1 (S := S) hyes).1, hfr, hL⟩
  · exact absurd ⟨t, ht, rfl⟩ c5
set_option maxRecDepth 20000 in
set_option maxHeartbeats 2000000 in
theorem ct_mhasPlace0 {c r sd lv bo : Nat} (hM : xt_Mp S c r sd lv bo) {a x y : Int32} (hbad : ¬ ∃ j, j < xt_nt c r sd ∧ a = nI j) : xt_Ct E l yX6_hasPlace cX6_hasPlace 4 (some Jvm.ClassFile.FieldType.boolean) 4 84 0 0 [.ref (E.1 49), .int a, .int x, .int y] S (xt_Eq (some (.int (nI 0))) S) := by
  refine xt_body (by decide +kernel) (xt_all rfl) (Nat.le_of_ble_eq_true rfl) (fun cx C hl9 => ?_)
  show xt_X E cx _ 0 0 0 [some (.ref (E.1 49)), some (.int a), some (.int x), some (.int y)] [] S
  have hM9 := hM
  obtain ⟨hc, hr, hs, hv, hb, b1, b2, b3, b4, b5, b6, b7⟩ := hM
  refine xt_aload_n C dX6_hasPlace_0 rfl ?_
  refine xt_iload_n C dX6_hasPlace_1 rfl ?_
  refine xt_cV C mv_X6_isTile lkX6_165 (ct_isTile (by exact hM9)) rfl (by decide) (xt_cl49 _ _) rfl (by decide) rfl (Nat.le_of_ble_eq_true rfl) dX6_hasPlace_2 ?_
  refine xt_if_neB (tgt := 10) C dX6_hasPlace_5 (by decide) (fun c5 => ?_) (fun c5 => ?_)
  · exact absurd c5 hbad
  · refine xt_iconst (v := nI 0) C dX6_hasPlace_8 rfl ?_
    exact xt_zret C dX6_hasPlace_9 (by decide) ⟨by decide, by decide⟩ ⟨rfl, rfl⟩
set_option maxRecDepth 20000 in
set_option maxHeartbeats 2000000 in
theorem ct_mcoefficient {c r sd lv bo : Nat} (hM : xt_Mp S c r sd lv bo) {t : Nat} (ht : t < xt_nt c r sd) {v k : Nat → Int32} (hvv : ∀ j, j < 256 → xt_mV S j = v j) (hkk : ∀ j, j < 256 → xt_mK S j = k j) (hvr : ∀ j, j < 256 → ∃ m, m ≤ 255 ∧ v j = nI m) (hk : ∀ j, j < 256 → k j = nI 0 ∨ k j = nI 1) {x y : Nat} (hx : x < (xt_gw c sd t)) (hy : y < (xt_gh c r sd t)) : xt_Ct E l yX6_coefficient cX6_coefficient 4 (some Jvm.ClassFile.FieldType.int) 5 107 0 0 [.ref (E.1 49), .int (nI t), .int (nI x), .int (nI y)] S (xt_Ep (some (.int (xt_tC c r sd lv t v (8 * y + x)))) (xt_mr S 0)) := by
  refine xt_body (by decide +kernel) (xt_all rfl) (Nat.le_of_ble_eq_true rfl) (fun cx C hl9 => ?_)
  show xt_X E cx _ 0 0 0 [some (.ref (E.1 49)), some (.int (nI t)), some (.int (nI x)), some (.int (nI y))] [] S
  have hM9 := hM
  obtain ⟨hc, hr, hs, hv, hb, b1, b2, b3, b4, b5, b6, b7⟩ := hM
  have hn := xt_nt_b ⟨b1, b2⟩ ⟨b3, b4⟩ b5
  have hT := xt_tile_b ⟨b1, b2⟩ ⟨b3, b4⟩ b5 ht
  have hdl : (xt_tD c r sd lv t) ≤ 3 := xt_dep_le.2
  refine xt_aload_n C dX6_coefficient_0 rfl ?_
  refine xt_iconst (v := nI 0) C dX6_coefficient_1 rfl ?_
  refine xt_put (f := 0) C xt_u6 rfl (by decide) (xt_cl49 _ _) (by decide) tyX6 tyX6_ok nmX6 lkX6_74 rfl (tyX6_ok 0 (by decide)) rfl rfl (Nat.le_of_ble_eq_true rfl) rfl dX6_coefficient_2 ?_
  refine xt_aload_n C dX6_coefficient_5 rfl ?_
  refine xt_iload_n C dX6_coefficient_6 rfl ?_
  refine xt_iload_n C dX6_coefficient_7 rfl ?_
  refine xt_iload_n C dX6_coefficient_8 rfl ?_
  refine xt_cVp C mv_X6_hasPlace lkX6_184 (ct_mhasPlace (by exact hM9) ht (by exact hvv) (by exact hkk) hvr hk) rfl (by decide) (xt_cl49 _ _) rfl (by decide) rfl (Nat.le_of_ble_eq_true rfl) dX6_coefficient_9 (fun S9 hq9 => ?_)
  obtain ⟨hfr, hL⟩ := hq9
  rename xt_St => T1
  have hMt := hL.1
  obtain ⟨m1, m2, m3, m4, g1, g2, g3, g4, g5, g6, g7⟩ := id hMt
  refine xt_if_eqB (tgt := 29) C dX6_coefficient_12 (by decide) (fun c12 => ?_) (fun c12 => ?_)
  · exact absurd ⟨⟨x, hx, rfl⟩, y, hy, rfl⟩ c12
  · refine xt_aload_n C dX6_coefficient_15 rfl ?_
    refine xt_get (f := 21) C xt_u6 rfl (by decide) (xt_cl49 _ _) (by decide) lkX6_44 rfl dX6_coefficient_16 ?_
    refine xt_aload_n C dX6_coefficient_19 rfl ?_
    refine xt_iload_n C dX6_coefficient_20 rfl ?_
    refine xt_iload_n C dX6_coefficient_21 rfl ?_
    refine xt_cV C mv_X6_place lkX6_116 ct_mplace rfl (by decide) (xt_cl49 _ _) rfl (by decide) rfl (Nat.le_of_ble_eq_true rfl) dX6_coefficient_22 ?_
    refine xt_ialdN C (by decide) (xt_cl59 _) (by omega) (by decide) (hL.2 y x (by omega) (by omega)).1 dX6_coefficient_25 ?_
    refine xt_goto (tgt := 34) C dX6_coefficient_26 (by decide) ?_
    exact xt_iret C dX6_coefficient_34 ⟨by decide, by decide⟩ ⟨rfl, xt_mr_0 hfr⟩
set_option maxRecDepth 20000 in
set_option maxHeartbeats 2000000 in
theorem ct_mcoefficient_t {c r sd lv bo : Nat} (hM : xt_Mp S c r sd lv bo) {a x y : Int32} (hbad : ¬ ∃ j, j < xt_nt c r sd ∧ a = nI j) : xt_Ct E l yX6_coefficient cX6_coefficient 4 (some Jvm.ClassFile.FieldType.int) 5 107 0 0 [.ref (E.1 49), .int a, .int x, .int y] S (xt_Ep (some (.int (nI 0))) (xt_mr S 1)) := by
  refine xt_body (by decide +kernel) (xt_all rfl) (Nat.le_of_ble_eq_true rfl) (fun cx C hl9 => ?_)
  show xt_X E cx _ 0 0 0 [some (.ref (E.1 49)), some (.int a), some (.int x), some (.int y)] [] S
  have hM9 := hM
  obtain ⟨hc, hr, hs, hv, hb, b1, b2, b3, b4, b5, b6, b7⟩ := hM
  refine xt_aload_n C dX6_coefficient_0 rfl ?_
  refine xt_iconst (v := nI 0) C dX6_coefficient_1 rfl ?_
  refine xt_put (f := 0) C xt_u6 rfl (by decide) (xt_cl49 _ _) (by decide) tyX6 tyX6_ok nmX6 lkX6_74 rfl (tyX6_ok 0 (by decide)) rfl rfl (Nat.le_of_ble_eq_true rfl) rfl dX6_coefficient_2 ?_
  refine xt_aload_n C dX6_coefficient_5 rfl ?_
  refine xt_iload_n C dX6_coefficient_6 rfl ?_
  refine xt_iload_n C dX6_coefficient_7 rfl ?_
  refine xt_iload_n C dX6_coefficient_8 rfl ?_
  refine xt_cV C mv_X6_hasPlace lkX6_184 (ct_mhasPlace0 (by exact hM9) hbad) rfl (by decide) (xt_cl49 _ _) rfl (by decide) rfl (Nat.le_of_ble_eq_true rfl) dX6_coefficient_9 ?_
  refine xt_if_eqN (tgt := 29) C dX6_coefficient_12 (by decide) (by omega) (fun c12 => ?_) (fun c12 => ?_)
  · refine xt_aload_n C dX6_coefficient_29 rfl ?_
    refine xt_iconst (v := nI 1) C dX6_coefficient_30 rfl ?_
    refine xt_cV C mv_X6_raises lkX6_142 ct_mraises rfl (by decide) (xt_cl49 _ _) rfl (by decide) rfl (Nat.le_of_ble_eq_true rfl) dX6_coefficient_31 ?_
    exact xt_iret C dX6_coefficient_34 ⟨by decide, by decide⟩ ⟨rfl, xt_mr_x xt_mfr_rf⟩
  · exact absurd c12 (by decide)
set_option maxRecDepth 20000 in
set_option maxHeartbeats 2000000 in
theorem ct_mcoefficient_p {c r sd lv bo : Nat} (hM : xt_Mp S c r sd lv bo) {t : Nat} (ht : t < xt_nt c r sd) {v k : Nat → Int32} (hvv : ∀ j, j < 256 → xt_mV S j = v j) (hkk : ∀ j, j < 256 → xt_mK S j = k j) (hvr : ∀ j, j < 256 → ∃ m, m ≤ 255 ∧ v j = nI m) (hk : ∀ j, j < 256 → k j = nI 0 ∨ k j = nI 1) {x y : Int32} (hbad : ¬ xt_pix (xt_gw c sd t) (xt_gh c r sd t) x y) : xt_Ct E l yX6_coefficient cX6_coefficient 4 (some Jvm.ClassFile.FieldType.int) 5 107 0 0 [.ref (E.1 49), .int (nI t), .int x, .int y] S (xt_Ep (some (.int (nI 0))) (xt_mr S 1)) := by
  refine xt_body (by decide +kernel) (xt_all rfl) (Nat.le_of_ble_eq_true rfl) (fun cx C hl9 => ?_)
  show xt_X E cx _ 0 0 0 [some (.ref (E.1 49)), some (.int (nI t)), some (.int x), some (.int y)] [] S
  have hM9 := hM
  obtain ⟨hc, hr, hs, hv, hb, b1, b2, b3, b4, b5, b6, b7⟩ := hM
  have hn := xt_nt_b ⟨b1, b2⟩ ⟨b3, b4⟩ b5
  have hT := xt_tile_b ⟨b1, b2⟩ ⟨b3, b4⟩ b5 ht
  have hdl : (xt_tD c r sd lv t) ≤ 3 := xt_dep_le.2
  refine xt_aload_n C dX6_coefficient_0 rfl ?_
  refine xt_iconst (v := nI 0) C dX6_coefficient_1 rfl ?_
  refine xt_put (f := 0) C xt_u6 rfl (by decide) (xt_cl49 _ _) (by decide) tyX6 tyX6_ok nmX6 lkX6_74 rfl (tyX6_ok 0 (by decide)) rfl rfl (Nat.le_of_ble_eq_true rfl) rfl dX6_coefficient_2 ?_
  refine xt_aload_n C dX6_coefficient_5 rfl ?_
  refine xt_iload_n C dX6_coefficient_6 rfl ?_
  refine xt_iload_n C dX6_coefficient_7 rfl ?_
  refine xt_iload_n C dX6_coefficient_8 rfl ?_
  refine xt_cVp C mv_X6_hasPlace lkX6_184 (ct_mhasPlace (by exact hM9) ht (by exact hvv) (by exact hkk) hvr hk) rfl (by decide) (xt_cl49 _ _) rfl (by decide) rfl (Nat.le_of_ble_eq_true rfl) dX6_coefficient_9 (fun S9 hq9 => ?_)
  obtain ⟨hfr, hL⟩ := hq9
  rename xt_St => T1
  have hMt := hL.1
  obtain ⟨m1, m2, m3, m4, g1, g2, g3, g4, g5, g6, g7⟩ := id hMt
  refine xt_if_eqB (tgt := 29) C dX6_coefficient_12 (by decide) (fun c12 => ?_) (fun c12 => ?_)
  · refine xt_aload_n C dX6_coefficient_29 rfl ?_
    refine xt_iconst (v := nI 1) C dX6_coefficient_30 rfl ?_
    refine xt_cV C mv_X6_raises lkX6_142 ct_mraises rfl (by decide) (xt_cl49 _ _) rfl (by decide) rfl (Nat.le_of_ble_eq_true rfl) dX6_coefficient_31 ?_
    exact xt_iret C dX6_coefficient_34 ⟨by decide, by decide⟩ ⟨rfl, xt_mr_x hfr⟩
  · exact absurd c12 hbad
set_option maxRecDepth 20000 in
set_option maxHeartbeats 2000000 in
theorem ct_mband {c r sd lv bo : Nat} (hM : xt_Mp S c r sd lv bo) {t : Nat} (ht : t < xt_nt c r sd) {v k : Nat → Int32} (hvv : ∀ j, j < 256 → xt_mV S j = v j) (hkk : ∀ j, j < 256 → xt_mK S j = k j) (hvr : ∀ j, j < 256 → ∃ m, m ≤ 255 ∧ v j = nI m) (hk : ∀ j, j < 256 → k j = nI 0 ∨ k j = nI 1) {x y : Nat} (hx : x < (xt_gw c sd t)) (hy : y < (xt_gh c r sd t)) : xt_Ct E l yX6_band cX6_band 4 (some Jvm.ClassFile.FieldType.int) 5 107 0 0 [.ref (E.1 49), .int (nI t), .int (nI x), .int (nI y)] S (xt_Ep (some (.int (nI (xt_bd (xt_tD c r sd lv t) (xt_gw c sd t) (xt_gh c r sd t) x y)))) (xt_mr S 0)) := by
  refine xt_body (by decide +kernel) (xt_all rfl) (Nat.le_of_ble_eq_true rfl) (fun cx C hl9 => ?_)
  show xt_X E cx _ 0 0 0 [some (.ref (E.1 49)), some (.int (nI t)), some (.int (nI x)), some (.int (nI y))] [] S
  have hM9 := hM
  obtain ⟨hc, hr, hs, hv, hb, b1, b2, b3, b4, b5, b6, b7⟩ := hM
  have hn := xt_nt_b ⟨b1, b2⟩ ⟨b3, b4⟩ b5
  have hT := xt_tile_b ⟨b1, b2⟩ ⟨b3, b4⟩ b5 ht
  have hdl : (xt_tD c r sd lv t) ≤ 3 := xt_dep_le.2
  refine xt_aload_n C dX6_band_0 rfl ?_
  refine xt_iconst (v := nI 0) C dX6_band_1 rfl ?_
  refine xt_put (f := 0) C xt_u6 rfl (by decide) (xt_cl49 _ _) (by decide) tyX6 tyX6_ok nmX6 lkX6_74 rfl (tyX6_ok 0 (by decide)) rfl rfl (Nat.le_of_ble_eq_true rfl) rfl dX6_band_2 ?_
  refine xt_aload_n C dX6_band_5 rfl ?_
  refine xt_iload_n C dX6_band_6 rfl ?_
  refine xt_iload_n C dX6_band_7 rfl ?_
  refine xt_iload_n C dX6_band_8 rfl ?_
  refine xt_cVp C mv_X6_hasPlace lkX6_184 (ct_mhasPlace (by exact hM9) ht (by exact hvv) (by exact hkk) hvr hk) rfl (by decide) (xt_cl49 _ _) rfl (by decide) rfl (Nat.le_of_ble_eq_true rfl) dX6_band_9 (fun S9 hq9 => ?_)
  obtain ⟨hfr, hL⟩ := hq9
  rename xt_St => T1
  have hMt := hL.1
  obtain ⟨m1, m2, m3, m4, g1, g2, g3, g4, g5, g6, g7⟩ := id hMt
  refine xt_if_eqB (tgt := 24) C dX6_band_12 (by decide) (fun c12 => ?_) (fun c12 => ?_)
  · exact absurd ⟨⟨x, hx, rfl⟩, y, hy, rfl⟩ c12
  · refine xt_aload_n C dX6_band_15 rfl ?_
    refine xt_iload_n C dX6_band_16 rfl ?_
    refine xt_iload_n C dX6_band_17 rfl ?_
    refine xt_cV C mv_X6_bandOf lkX6_187 (ct_bandOf hMt hx hy) rfl (by decide) (xt_cl49 _ _) rfl (by decide) rfl (Nat.le_of_ble_eq_true rfl) dX6_band_18 ?_
    refine xt_goto (tgt := 29) C dX6_band_21 (by decide) ?_
    exact xt_iret C dX6_band_29 ⟨by decide, by decide⟩ ⟨rfl, xt_mr_0 hfr⟩
set_option maxRecDepth 20000 in
set_option maxHeartbeats 2000000 in
theorem ct_mband_t {c r sd lv bo : Nat} (hM : xt_Mp S c r sd lv bo) {a x y : Int32} (hbad : ¬ ∃ j, j < xt_nt c r sd ∧ a = nI j) : xt_Ct E l yX6_band cX6_band 4 (some Jvm.ClassFile.FieldType.int) 5 107 0 0 [.ref (E.1 49), .int a, .int x, .int y] S (xt_Ep (some (.int (nI 0))) (xt_mr S 1)) := by
  refine xt_body (by decide +kernel) (xt_all rfl) (Nat.le_of_ble_eq_true rfl) (fun cx C hl9 => ?_)
  show xt_X E cx _ 0 0 0 [some (.ref (E.1 49)), some (.int a), some (.int x), some (.int y)] [] S
  have hM9 := hM
  obtain ⟨hc, hr, hs, hv, hb, b1, b2, b3, b4, b5, b6, b7⟩ := hM
  refine xt_aload_n C dX6_band_0 rfl ?_
  refine xt_iconst (v := nI 0) C dX6_band_1 rfl ?_
  refine xt_put (f := 0) C xt_u6 rfl (by decide) (xt_cl49 _ _) (by decide) tyX6 tyX6_ok nmX6 lkX6_74 rfl (tyX6_ok 0 (by decide)) rfl rfl (Nat.le_of_ble_eq_true rfl) rfl dX6_band_2 ?_
  refine xt_aload_n C dX6_band_5 rfl ?_
  refine xt_iload_n C dX6_band_6 rfl ?_
  refine xt_iload_n C dX6_band_7 rfl ?_
  refine xt_iload_n C dX6_band_8 rfl ?_
  refine xt_cV C mv_X6_hasPlace lkX6_184 (ct_mhasPlace0 (by exact hM9) hbad) rfl (by decide) (xt_cl49 _ _) rfl (by decide) rfl (Nat.le_of_ble_eq_true rfl) dX6_band_9 ?_
  refine xt_if_eqN (tgt := 24) C dX6_band_12 (by decide) (by omega) (fun c12 => ?_) (fun c12 => ?_)
  · refine xt_aload_n C dX6_band_24 rfl ?_
    refine xt_iconst (v := nI 1) C dX6_band_25 rfl ?_
    refine xt_cV C mv_X6_raises lkX6_142 ct_mraises rfl (by decide) (xt_cl49 _ _) rfl (by decide) rfl (Nat.le_of_ble_eq_true rfl) dX6_band_26 ?_
    exact xt_iret C dX6_band_29 ⟨by decide, by decide⟩ ⟨rfl, xt_mr_x xt_mfr_rf⟩
  · exact absurd c12 (by decide)
set_option maxRecDepth 20000 in
set_option maxHeartbeats 2000000 in
theorem ct_mband_p {c r sd lv bo : Nat} (hM : xt_Mp S c r sd lv bo) {t : Nat} (ht : t < xt_nt c r sd) {v k : Nat → Int32} (hvv : ∀ j, j < 256 → xt_mV S j = v j) (hkk : ∀ j, j < 256 → xt_mK S j = k j) (hvr : ∀ j, j < 256 → ∃ m, m ≤ 255 ∧ v j = nI m) (hk : ∀ j, j < 256 → k j = nI 0 ∨ k j = nI 1) {x y : Int32} (hbad : ¬ xt_pix (xt_gw c sd t) (xt_gh c r sd t) x y) : xt_Ct E l yX6_band cX6_band 4 (some Jvm.ClassFile.FieldType.int) 5 107 0 0 [.ref (E.1 49), .int (nI t), .int x, .int y] S (xt_Ep (some (.int (nI 0))) (xt_mr S 1)) := by
  refine xt_body (by decide +kernel) (xt_all rfl) (Nat.le_of_ble_eq_true rfl) (fun cx C hl9 => ?_)
  show xt_X E cx _ 0 0 0 [some (.ref (E.1 49)), some (.int (nI t)), some (.int x), some (.int y)] [] S
  have hM9 := hM
  obtain ⟨hc, hr, hs, hv, hb, b1, b2, b3, b4, b5, b6, b7⟩ := hM
  have hn := xt_nt_b ⟨b1, b2⟩ ⟨b3, b4⟩ b5
  have hT := xt_tile_b ⟨b1, b2⟩ ⟨b3, b4⟩ b5 ht
  have hdl : (xt_tD c r sd lv t) ≤ 3 := xt_dep_le.2
  refine xt_aload_n C dX6_band_0 rfl ?_
  refine xt_iconst (v := nI 0) C dX6_band_1 rfl ?_
  refine xt_put (f := 0) C xt_u6 rfl (by decide) (xt_cl49 _ _) (by decide) tyX6 tyX6_ok nmX6 lkX6_74 rfl (tyX6_ok 0 (by decide)) rfl rfl (Nat.le_of_ble_eq_true rfl) rfl dX6_band_2 ?_
  refine xt_aload_n C dX6_band_5 rfl ?_
  refine xt_iload_n C dX6_band_6 rfl ?_
  refine xt_iload_n C dX6_band_7 rfl ?_
  refine xt_iload_n C dX6_band_8 rfl ?_
  refine xt_cVp C mv_X6_hasPlace lkX6_184 (ct_mhasPlace (by exact hM9) ht (by exact hvv) (by exact hkk) hvr hk) rfl (by decide) (xt_cl49 _ _) rfl (by decide) rfl (Nat.le_of_ble_eq_true rfl) dX6_band_9 (fun S9 hq9 => ?_)
  obtain ⟨hfr, hL⟩ := hq9
  rename xt_St => T1
  have hMt := hL.1
  obtain ⟨m1, m2, m3, m4, g1, g2, g3, g4, g5, g6, g7⟩ := id hMt
  refine xt_if_eqB (tgt := 24) C dX6_band_12 (by decide) (fun c12 => ?_) (fun c12 => ?_)
  · refine xt_aload_n C dX6_band_24 rfl ?_
    refine xt_iconst (v := nI 1) C dX6_band_25 rfl ?_
    refine xt_cV C mv_X6_raises lkX6_142 ct_mraises rfl (by decide) (xt_cl49 _ _) rfl (by decide) rfl (Nat.le_of_ble_eq_true rfl) dX6_band_26 ?_
    exact xt_iret C dX6_band_29 ⟨by decide, by decide⟩ ⟨rfl, xt_mr_x hfr⟩
  · exact absurd c12 hbad
set_option maxRecDepth 20000 in
set_option maxHeartbeats 2000000 in
theorem ct_mlayerOf {c r sd lv bo : Nat} (hM : xt_Mp S c r sd lv bo) {t : Nat} (ht : t < xt_nt c r sd) {v k : Nat → Int32} (hvv : ∀ j, j < 256 → xt_mV S j = v j) (hkk : ∀ j, j < 256 → xt_mK S j = k j) (hvr : ∀ j, j < 256 → ∃ m, m ≤ 255 ∧ v j = nI m) (hk : ∀ j, j < 256 → k j = nI 0 ∨ k j = nI 1) {x y : Nat} (hx : x < (xt_gw c sd t)) (hy : y < (xt_gh c r sd t)) {p : Nat} (hp8 : p ≤ 8) : xt_Ct E l yX6_layerOf cX6_layerOf 5 (some Jvm.ClassFile.FieldType.int) 5 107 0 0 [.ref (E.1 49), .int (nI t), .int (nI x), .int (nI y), .int (nI p)] S (xt_Ep (some (.int (nI (xt_lay (xt_tM c r sd lv t k (8 * y + x)) bo p)))) (xt_mr S 0)) := by
  refine xt_body (by decide +kernel) (xt_all rfl) (Nat.le_of_ble_eq_true rfl) (fun cx C hl9 => ?_)
  show xt_X E cx _ 0 0 0 [some (.ref (E.1 49)), some (.int (nI t)), some (.int (nI x)), some (.int (nI y)), some (.int (nI p))] [] S
  have hM9 := hM
  obtain ⟨hc, hr, hs, hv, hb, b1, b2, b3, b4, b5, b6, b7⟩ := hM
  have hn := xt_nt_b ⟨b1, b2⟩ ⟨b3, b4⟩ b5
  have hT := xt_tile_b ⟨b1, b2⟩ ⟨b3, b4⟩ b5 ht
  have hdl : (xt_tD c r sd lv t) ≤ 3 := xt_dep_le.2
  refine xt_aload_n C dX6_layerOf_0 rfl ?_
  refine xt_iconst (v := nI 0) C dX6_layerOf_1 rfl ?_
  refine xt_put (f := 0) C xt_u6 rfl (by decide) (xt_cl49 _ _) (by decide) tyX6 tyX6_ok nmX6 lkX6_74 rfl (tyX6_ok 0 (by decide)) rfl rfl (Nat.le_of_ble_eq_true rfl) rfl dX6_layerOf_2 ?_
  refine xt_aload_n C dX6_layerOf_5 rfl ?_
  refine xt_iload_n C dX6_layerOf_6 rfl ?_
  refine xt_iload_n C dX6_layerOf_7 rfl ?_
  refine xt_iload_n C dX6_layerOf_8 rfl ?_
  refine xt_cVp C mv_X6_hasPlace lkX6_184 (ct_mhasPlace (by exact hM9) ht (by exact hvv) (by exact hkk) hvr hk) rfl (by decide) (xt_cl49 _ _) rfl (by decide) rfl (Nat.le_of_ble_eq_true rfl) dX6_layerOf_9 (fun S9 hq9 => ?_)
  obtain ⟨hfr, hL⟩ := hq9
  rename xt_St => T1
  have hMt := hL.1
  obtain ⟨m1, m2, m3, m4, g1, g2, g3, g4, g5, g6, g7⟩ := id hMt
  refine xt_if_neB (tgt := 21) C dX6_layerOf_12 (by decide) (fun c12 => ?_) (fun c12 => ?_)
  · refine xt_iload C dX6_layerOf_21 rfl ?_
    refine xt_iconst (v := nI 0) C dX6_layerOf_23 rfl ?_
    refine xt_bipush (v := nI 8) C dX6_layerOf_24 (by decide) ?_
    refine xt_cS C ms_X6_in lkX6_81 ct_in rfl (by decide) rfl (Nat.le_of_ble_eq_true rfl) dX6_layerOf_26 ?_
    refine xt_if_eqB (tgt := 47) C dX6_layerOf_29 (by decide) (fun c29 => ?_) (fun c29 => ?_)
    · exact absurd ⟨nI_pos' (by omega), nI_le hp8 (by omega)⟩ c29
    · refine xt_aload_n C dX6_layerOf_32 rfl ?_
      refine xt_aload_n C dX6_layerOf_33 rfl ?_
      refine xt_iload_n C dX6_layerOf_34 rfl ?_
      refine xt_iload_n C dX6_layerOf_35 rfl ?_
      refine xt_cV C mv_X6_place lkX6_116 ct_mplace rfl (by decide) (xt_cl49 _ _) rfl (by decide) rfl (Nat.le_of_ble_eq_true rfl) dX6_layerOf_36 ?_
      refine xt_iload C dX6_layerOf_39 rfl ?_
      refine xt_cV C mv_X6_layer lkX6_129 (ct_mlayer (by omega) (hL.2 y x hy hx).2 xt_tM_le (by rw [hfr.2.1 50 (by omega)]; exact hb) (by omega) hp8) rfl (by decide) (xt_cl49 _ _) rfl (by decide) rfl (Nat.le_of_ble_eq_true rfl) dX6_layerOf_41 ?_
      refine xt_goto (tgt := 52) C dX6_layerOf_44 (by decide) ?_
      exact xt_iret C dX6_layerOf_52 ⟨by decide, by decide⟩ ⟨rfl, xt_mr_0 hfr⟩
  · exact absurd ⟨⟨x, hx, rfl⟩, y, hy, rfl⟩ c12
set_option maxRecDepth 20000 in
set_option maxHeartbeats 2000000 in
theorem ct_mlayerOf_t {c r sd lv bo : Nat} (hM : xt_Mp S c r sd lv bo) {a x y : Int32} (hbad : ¬ ∃ j, j < xt_nt c r sd ∧ a = nI j) {p : Int32} : xt_Ct E l yX6_layerOf cX6_layerOf 5 (some Jvm.ClassFile.FieldType.int) 5 107 0 0 [.ref (E.1 49), .int a, .int x, .int y, .int p] S (xt_Ep (some (.int (nI 0))) (xt_mr S 1)) := by
  refine xt_body (by decide +kernel) (xt_all rfl) (Nat.le_of_ble_eq_true rfl) (fun cx C hl9 => ?_)
  show xt_X E cx _ 0 0 0 [some (.ref (E.1 49)), some (.int a), some (.int x), some (.int y), some (.int p)] [] S
  have hM9 := hM
  obtain ⟨hc, hr, hs, hv, hb, b1, b2, b3, b4, b5, b6, b7⟩ := hM
  refine xt_aload_n C dX6_layerOf_0 rfl ?_
  refine xt_iconst (v := nI 0) C dX6_layerOf_1 rfl ?_
  refine xt_put (f := 0) C xt_u6 rfl (by decide) (xt_cl49 _ _) (by decide) tyX6 tyX6_ok nmX6 lkX6_74 rfl (tyX6_ok 0 (by decide)) rfl rfl (Nat.le_of_ble_eq_true rfl) rfl dX6_layerOf_2 ?_
  refine xt_aload_n C dX6_layerOf_5 rfl ?_
  refine xt_iload_n C dX6_layerOf_6 rfl ?_
  refine xt_iload_n C dX6_layerOf_7 rfl ?_
  refine xt_iload_n C dX6_layerOf_8 rfl ?_
  refine xt_cV C mv_X6_hasPlace lkX6_184 (ct_mhasPlace0 (by exact hM9) hbad) rfl (by decide) (xt_cl49 _ _) rfl (by decide) rfl (Nat.le_of_ble_eq_true rfl) dX6_layerOf_9 ?_
  refine xt_if_neN (tgt := 21) C dX6_layerOf_12 (by decide) (by omega) (fun c12 => ?_) (fun c12 => ?_)
  · exact absurd c12 (by decide)
  · refine xt_aload_n C dX6_layerOf_15 rfl ?_
    refine xt_iconst (v := nI 1) C dX6_layerOf_16 rfl ?_
    refine xt_cV C mv_X6_raises lkX6_142 ct_mraises rfl (by decide) (xt_cl49 _ _) rfl (by decide) rfl (Nat.le_of_ble_eq_true rfl) dX6_layerOf_17 ?_
    exact xt_iret C dX6_layerOf_20 ⟨by decide, by decide⟩ ⟨rfl, xt_mr_x xt_mfr_rf⟩
set_option maxRecDepth 20000 in
set_option maxHeartbeats 2000000 in
theorem ct_mlayerOf_p {c r sd lv bo : Nat} (hM : xt_Mp S c r sd lv bo) {t : Nat} (ht : t < xt_nt c r sd) {v k : Nat → Int32} (hvv : ∀ j, j < 256 → xt_mV S j = v j) (hkk : ∀ j, j < 256 → xt_mK S j = k j) (hvr : ∀ j, j < 256 → ∃ m, m ≤ 255 ∧ v j = nI m) (hk : ∀ j, j < 256 → k j = nI 0 ∨ k j = nI 1) {x y : Int32} (hbad : ¬ xt_pix (xt_gw c sd t) (xt_gh c r sd t) x y) {p : Int32} : xt_Ct E l yX6_layerOf cX6_layerOf 5 (some Jvm.ClassFile.FieldType.int) 5 107 0 0 [.ref (E.1 49), .int (nI t), .int x, .int y, .int p] S (xt_Ep (some (.int (nI 0))) (xt_mr S 1)) := by
  refine xt_body (by decide +kernel) (xt_all rfl) (Nat.le_of_ble_eq_true rfl) (fun cx C hl9 => ?_)
  show xt_X E cx _ 0 0 0 [some (.ref (E.1 49)), some (.int (nI t)), some (.int x), some (.int y), some (.int p)] [] S
  have hM9 := hM
  obtain ⟨hc, hr, hs, hv, hb, b1, b2, b3, b4, b5, b6, b7⟩ := hM
  have hn := xt_nt_b ⟨b1, b2⟩ ⟨b3, b4⟩ b5
  have hT := xt_tile_b ⟨b1, b2⟩ ⟨b3, b4⟩ b5 ht
  have hdl : (xt_tD c r sd lv t) ≤ 3 := xt_dep_le.2
  refine xt_aload_n C dX6_layerOf_0 rfl ?_
  refine xt_iconst (v := nI 0) C dX6_layerOf_1 rfl ?_
  refine xt_put (f := 0) C xt_u6 rfl (by decide) (xt_cl49 _ _) (by decide) tyX6 tyX6_ok nmX6 lkX6_74 rfl (tyX6_ok 0 (by decide)) rfl rfl (Nat.le_of_ble_eq_true rfl) rfl dX6_layerOf_2 ?_
  refine xt_aload_n C dX6_layerOf_5 rfl ?_
  refine xt_iload_n C dX6_layerOf_6 rfl ?_
  refine xt_iload_n C dX6_layerOf_7 rfl ?_
  refine xt_iload_n C dX6_layerOf_8 rfl ?_
  refine xt_cVp C mv_X6_hasPlace lkX6_184 (ct_mhasPlace (by exact hM9) ht (by exact hvv) (by exact hkk) hvr hk) rfl (by decide) (xt_cl49 _ _) rfl (by decide) rfl (Nat.le_of_ble_eq_true rfl) dX6_layerOf_9 (fun S9 hq9 => ?_)
  obtain ⟨hfr, hL⟩ := hq9
  rename xt_St => T1
  have hMt := hL.1
  obtain ⟨m1, m2, m3, m4, g1, g2, g3, g4, g5, g6, g7⟩ := id hMt
  refine xt_if_neB (tgt := 21) C dX6_layerOf_12 (by decide) (fun c12 => ?_) (fun c12 => ?_)
  · exact absurd c12 hbad
  · refine xt_aload_n C dX6_layerOf_15 rfl ?_
    refine xt_iconst (v := nI 1) C dX6_layerOf_16 rfl ?_
    refine xt_cV C mv_X6_raises lkX6_142 ct_mraises rfl (by decide) (xt_cl49 _ _) rfl (by decide) rfl (Nat.le_of_ble_eq_true rfl) dX6_layerOf_17 ?_
    exact xt_iret C dX6_layerOf_20 ⟨by decide, by decide⟩ ⟨rfl, xt_mr_x hfr⟩
set_option maxRecDepth 20000 in
set_option maxHeartbeats 2000000 in
theorem ct_mlayerOf_q {c r sd lv bo : Nat} (hM : xt_Mp S c r sd lv bo) {t : Nat} (ht : t < xt_nt c r sd) {v k : Nat → Int32} (hvv : ∀ j, j < 256 → xt_mV S j = v j) (hkk : ∀ j, j < 256 → xt_mK S j = k j) (hvr : ∀ j, j < 256 → ∃ m, m ≤ 255 ∧ v j = nI m) (hk : ∀ j, j < 256 → k j = nI 0 ∨ k j = nI 1) {x y : Nat} (hx : x < (xt_gw c sd t)) (hy : y < (xt_gh c r sd t)) {p : Int32} (hb2 : ¬ (nI 0 ≤ p ∧ p ≤ nI 8)) : xt_Ct E l yX6_layerOf cX6_layerOf 5 (some Jvm.ClassFile.FieldType.int) 5 107 0 0 [.ref (E.1 49), .int (nI t), .int (nI x), .int (nI y), .int p] S (xt_Ep (some (.int (nI 0))) (xt_mr S 2)) := by
  refine xt_body (by decide +kernel) (xt_all rfl) (Nat.le_of_ble_eq_true rfl) (fun cx C hl9 => ?_)
  show xt_X E cx _ 0 0 0 [some (.ref (E.1 49)), some (.int (nI t)), some (.int (nI x)), some (.int (nI y)), some (.int p)] [] S
  have hM9 := hM
  obtain ⟨hc, hr, hs, hv, hb, b1, b2, b3, b4, b5, b6, b7⟩ := hM
  have hn := xt_nt_b ⟨b1, b2⟩ ⟨b3, b4⟩ b5
  have hT := xt_tile_b ⟨b1, b2⟩ ⟨b3, b4⟩ b5 ht
  have hdl : (xt_tD c r sd lv t) ≤ 3 := xt_dep_le.2
  refine xt_aload_n C dX6_layerOf_0 rfl ?_
  refine xt_iconst (v := nI 0) C dX6_layerOf_1 rfl ?_
  refine xt_put (f := 0) C xt_u6 rfl (by decide) (xt_cl49 _ _) (by decide) tyX6 tyX6_ok nmX6 lkX6_74 rfl (tyX6_ok 0 (by decide)) rfl rfl (Nat.le_of_ble_eq_true rfl) rfl dX6_layerOf_2 ?_
  refine xt_aload_n C dX6_layerOf_5 rfl ?_
  refine xt_iload_n C dX6_layerOf_6 rfl ?_
  refine xt_iload_n C dX6_layerOf_7 rfl ?_
  refine xt_iload_n C dX6_layerOf_8 rfl ?_
  refine xt_cVp C mv_X6_hasPlace lkX6_184 (ct_mhasPlace (by exact hM9) ht (by exact hvv) (by exact hkk) hvr hk) rfl (by decide) (xt_cl49 _ _) rfl (by decide) rfl (Nat.le_of_ble_eq_true rfl) dX6_layerOf_9 (fun S9 hq9 => ?_)
  obtain ⟨hfr, hL⟩ := hq9
  rename xt_St => T1
  have hMt := hL.1
  obtain ⟨m1, m2, m3, m4, g1, g2, g3, g4, g5, g6, g7⟩ := id hMt
  refine xt_if_neB (tgt := 21) C dX6_layerOf_12 (by decide) (fun c12 => ?_) (fun c12 => ?_)
  · refine xt_iload C dX6_layerOf_21 rfl ?_
    refine xt_iconst (v := nI 0) C dX6_layerOf_23 rfl ?_
    refine xt_bipush (v := nI 8) C dX6_layerOf_24 (by decide) ?_
    refine xt_cS C ms_X6_in lkX6_81 ct_in rfl (by decide) rfl (Nat.le_of_ble_eq_true rfl) dX6_layerOf_26 ?_
    refine xt_if_eqB (tgt := 47) C dX6_layerOf_29 (by decide) (fun c29 => ?_) (fun c29 => ?_)
    · refine xt_aload_n C dX6_layerOf_47 rfl ?_
      refine xt_iconst (v := nI 2) C dX6_layerOf_48 rfl ?_
      refine xt_cV C mv_X6_raises lkX6_142 ct_mraises rfl (by decide) (xt_cl49 _ _) rfl (by decide) rfl (Nat.le_of_ble_eq_true rfl) dX6_layerOf_49 ?_
      exact xt_iret C dX6_layerOf_52 ⟨by decide, by decide⟩ ⟨rfl, xt_mr_x hfr⟩
    · exact absurd c29 hb2
  · exact absurd ⟨⟨x, hx, rfl⟩, y, hy, rfl⟩ c12
set_option maxRecDepth 20000 in
set_option maxHeartbeats 2000000 in
theorem ct_mdescendants {c r sd lv bo : Nat} (hM : xt_Mp S c r sd lv bo) {t : Nat} (ht : t < xt_nt c r sd) {v k : Nat → Int32} (hvv : ∀ j, j < 256 → xt_mV S j = v j) (hkk : ∀ j, j < 256 → xt_mK S j = k j) (hvr : ∀ j, j < 256 → ∃ m, m ≤ 255 ∧ v j = nI m) (hk : ∀ j, j < 256 → k j = nI 0 ∨ k j = nI 1) {x y : Nat} (hx : x < (xt_gw c sd t)) (hy : y < (xt_gh c r sd t)) : xt_Ct E l yX6_descendants cX6_descendants 7 (some Jvm.ClassFile.FieldType.int) 5 107 0 0 [.ref (E.1 49), .int (nI t), .int (nI x), .int (nI y)] S (xt_Ep (some (.int (xt_N2 (fun x9 y9 => (∃ j, j < 3 ∧ xt_anc (xt_pf (xt_tD c r sd lv t) (xt_gw c sd t) (xt_gh c r sd t)) (j + 1) (8 * y9 + x9) = some (8 * y + x))) (xt_gw c sd t) (xt_gh c r sd t)))) (xt_mr S 0)) := by
  refine xt_body (by decide +kernel) (xt_all rfl) (Nat.le_of_ble_eq_true rfl) (fun cx C hl9 => ?_)
  show xt_X E cx _ 0 0 0 [some (.ref (E.1 49)), some (.int (nI t)), some (.int (nI x)), some (.int (nI y)), none, none, none] [] S
  have hM9 := hM
  obtain ⟨hc, hr, hs, hv, hb, b1, b2, b3, b4, b5, b6, b7⟩ := hM
  have hn := xt_nt_b ⟨b1, b2⟩ ⟨b3, b4⟩ b5
  have hT := xt_tile_b ⟨b1, b2⟩ ⟨b3, b4⟩ b5 ht
  have hdl : (xt_tD c r sd lv t) ≤ 3 := xt_dep_le.2
  refine xt_aload_n C dX6_descendants_0 rfl ?_
  refine xt_iconst (v := nI 0) C dX6_descendants_1 rfl ?_
  refine xt_put (f := 0) C xt_u6 rfl (by decide) (xt_cl49 _ _) (by decide) tyX6 tyX6_ok nmX6 lkX6_74 rfl (tyX6_ok 0 (by decide)) rfl rfl (Nat.le_of_ble_eq_true rfl) rfl dX6_descendants_2 ?_
  refine xt_aload_n C dX6_descendants_5 rfl ?_
  refine xt_iload_n C dX6_descendants_6 rfl ?_
  refine xt_iload_n C dX6_descendants_7 rfl ?_
  refine xt_iload_n C dX6_descendants_8 rfl ?_
  refine xt_cVp C mv_X6_hasPlace lkX6_184 (ct_mhasPlace (by exact hM9) ht (by exact hvv) (by exact hkk) hvr hk) rfl (by decide) (xt_cl49 _ _) rfl (by decide) rfl (Nat.le_of_ble_eq_true rfl) dX6_descendants_9 (fun S9 hq9 => ?_)
  obtain ⟨hfr, hL⟩ := hq9
  rename xt_St => T1
  have hMt := hL.1
  obtain ⟨m1, m2, m3, m4, g1, g2, g3, g4, g5, g6, g7⟩ := id hMt
  refine xt_if_neB (tgt := 21) C dX6_descendants_12 (by decide) (fun c12 => ?_) (fun c12 => ?_)
  · refine xt_iconst (v := nI 0) C dX6_descendants_21 rfl ?_
    refine xt_istore (lo' := [_, _, _, _, _, _, _]) C dX6_descendants_22 (Nat.le_of_ble_eq_true rfl) rfl rfl ?_
    refine xt_iconst (v := nI 0) C dX6_descendants_24 rfl ?_
    refine xt_istore (lo' := [_, _, _, _, _, _, _]) C dX6_descendants_25 (Nat.le_of_ble_eq_true rfl) rfl rfl ?_
    have out1 : ∀ (d1 y9 : Nat), y9 ≤ (xt_gh c r sd t) →  (xt_gh c r sd t) + 1 ≤ y9 + d1 → xt_X E cx (xt_ZM E cx 0 0 (xt_Ep (some (.int (xt_N2 (fun x9 y9 => (∃ j, j < 3 ∧ xt_anc (xt_pf (xt_tD c r sd lv t) (xt_gw c sd t) (xt_gh c r sd t)) (j + 1) (8 * y9 + x9) = some (8 * y + x))) (xt_gw c sd t) (xt_gh c r sd t)))) (xt_mr S 0))) 0 0 27 [some (.ref (E.1 49)), some (.int (nI t)), some (.int (nI x)), some (.int (nI y)), some (.int (xt_it (fun y9 s => xt_it (fun x9 s => xt_ci (∃ j, j < 3 ∧ xt_anc (xt_pf (xt_tD c r sd lv t) (xt_gw c sd t) (xt_gh c r sd t)) (j + 1) (8 * y9 + x9) = some (8 * y + x)) s) (xt_gw c sd t) s) y9 0)), some (.int (nI y9)), none] [] T1 := by
      intro d1
      induction d1 with
      | zero => intro y9  h0y9  h1y9; exact absurd h1y9 (by omega)
      | succ d1 ih1 =>
        intro y9  h0y9  h1y9
        refine xt_iload C dX6_descendants_27 rfl ?_
        refine xt_aload_n C dX6_descendants_29 rfl ?_
        refine xt_get (f := 20) C xt_u6 rfl (by decide) (xt_cl49 _ _) (by decide) lkX6_41 rfl dX6_descendants_30 ?_
        refine xt_iconst (v := nI 0) C dX6_descendants_33 rfl ?_
        refine xt_ialdN C (by decide) (xt_cl58 _) (by decide) (by decide) (show T1.2.1 58 0 = nI (xt_gh c r sd t) from by rw [(m4 0 (by omega)).2, xt_lo_0]) dX6_descendants_34 ?_
        refine xt_icmp_geN (tgt := 84) C dX6_descendants_35 (by decide) (by omega) (by omega) (fun c35 => ?_) (fun c35 => ?_)
        · refine xt_iload C dX6_descendants_84 rfl ?_
          exact xt_iret C dX6_descendants_86 ⟨by decide, by decide⟩ ⟨by rw [show y9 = (xt_gh c r sd t) by omega]; rfl, xt_mr_0 hfr⟩
        · refine xt_iconst (v := nI 0) C dX6_descendants_38 rfl ?_
          refine xt_istore (lo' := [_, _, _, _, _, _, _]) C dX6_descendants_39 (Nat.le_of_ble_eq_true rfl) rfl rfl ?_
          have in2 : ∀ (d2 x9 : Nat), x9 ≤ (xt_gw c sd t) →  (xt_gw c sd t) + 1 ≤ x9 + d2 → xt_X E cx (xt_ZM E cx 0 0 (xt_Ep (some (.int (xt_N2 (fun x9 y9 => (∃ j, j < 3 ∧ xt_anc (xt_pf (xt_tD c r sd lv t) (xt_gw c sd t) (xt_gh c r sd t)) (j + 1) (8 * y9 + x9) = some (8 * y + x))) (xt_gw c sd t) (xt_gh c r sd t)))) (xt_mr S 0))) 0 0 41 [some (.ref (E.1 49)), some (.int (nI t)), some (.int (nI x)), some (.int (nI y)), some (.int (xt_it (fun x9 s => xt_ci (∃ j, j < 3 ∧ xt_anc (xt_pf (xt_tD c r sd lv t) (xt_gw c sd t) (xt_gh c r sd t)) (j + 1) (8 * y9 + x9) = some (8 * y + x)) s) x9 (xt_it (fun y9 s => xt_it (fun x9 s => xt_ci (∃ j, j < 3 ∧ xt_anc (xt_pf (xt_tD c r sd lv t) (xt_gw c sd t) (xt_gh c r sd t)) (j + 1) (8 * y9 + x9) = some (8 * y + x)) s) (xt_gw c sd t) s) y9 0))), some (.int (nI y9)), some (.int (nI x9))] [] T1 := by
            intro d2
            induction d2 with
            | zero => intro x9  h0x9  h1x9; exact absurd h1x9 (by omega)
            | succ d2 ih2 =>
              intro x9  h0x9  h1x9
              refine xt_iload C dX6_descendants_41 rfl ?_
              refine xt_aload_n C dX6_descendants_43 rfl ?_
              refine xt_get (f := 19) C xt_u6 rfl (by decide) (xt_cl49 _ _) (by decide) lkX6_38 rfl dX6_descendants_44 ?_
              refine xt_iconst (v := nI 0) C dX6_descendants_47 rfl ?_
              refine xt_ialdN C (by decide) (xt_cl57 _) (by decide) (by decide) (show T1.2.1 57 0 = nI (xt_gw c sd t) from by rw [(m4 0 (by omega)).1, xt_lo_0]) dX6_descendants_48 ?_
              refine xt_icmp_geN (tgt := 78) C dX6_descendants_49 (by decide) (by omega) (by omega) (fun c49 => ?_) (fun c49 => ?_)
              · refine xt_iincN (z := 1) (lo' := [_, _, _, _, _, _, _]) C dX6_descendants_78 rfl rfl rfl ?_
                refine xt_goto (tgt := 27) C dX6_descendants_81 (by decide) ?_
                have hx9 : x9 = (xt_gw c sd t) := by omega
                subst hx9
                exact xt_fg (by repeat' constructor) (ih1 (y9 + 1) (by omega)  (by omega))
              · refine xt_aload_n C dX6_descendants_52 rfl ?_
                refine xt_iload C dX6_descendants_53 rfl ?_
                refine xt_iload C dX6_descendants_55 rfl ?_
                refine xt_aload_n C dX6_descendants_57 rfl ?_
                refine xt_iload_n C dX6_descendants_58 rfl ?_
                refine xt_iload_n C dX6_descendants_59 rfl ?_
                refine xt_cV C mv_X6_place lkX6_116 ct_mplace rfl (by decide) (xt_cl49 _ _) rfl (by decide) rfl (Nat.le_of_ble_eq_true rfl) dX6_descendants_60 ?_
                refine xt_cV C mv_X6_isUnder lkX6_196 (ct_isUnder hMt (by omega) (by omega) (by omega)) rfl (by decide) (xt_cl49 _ _) rfl (by decide) rfl (Nat.le_of_ble_eq_true rfl) dX6_descendants_63 ?_
                refine xt_if_eqB (tgt := 72) C dX6_descendants_66 (by decide) (fun c66 => ?_) (fun c66 => ?_)
                · refine xt_iincN (z := 1) (lo' := [_, _, _, _, _, _, _]) C dX6_descendants_72 rfl rfl rfl ?_
                  refine xt_goto (tgt := 41) C dX6_descendants_75 (by decide) ?_
                  have h9 := ih2 (x9 + 1) (by omega)  (by omega)
                  rw [show xt_it (fun x9 s => xt_ci (∃ j, j < 3 ∧ xt_anc (xt_pf (xt_tD c r sd lv t) (xt_gw c sd t) (xt_gh c r sd t)) (j + 1) (8 * y9 + x9) = some (8 * y + x)) s) (x9 + 1) (xt_it (fun y9 s => xt_it (fun x9 s => xt_ci (∃ j, j < 3 ∧ xt_anc (xt_pf (xt_tD c r sd lv t) (xt_gw c sd t) (xt_gh c r sd t)) (j + 1) (8 * y9 + x9) = some (8 * y + x)) s) (xt_gw c sd t) s) y9 0) = xt_ci (∃ j, j < 3 ∧ xt_anc (xt_pf (xt_tD c r sd lv t) (xt_gw c sd t) (xt_gh c r sd t)) (j + 1) (8 * y9 + x9) = some (8 * y + x)) (xt_it (fun x9 s => xt_ci (∃ j, j < 3 ∧ xt_anc (xt_pf (xt_tD c r sd lv t) (xt_gw c sd t) (xt_gh c r sd t)) (j + 1) (8 * y9 + x9) = some (8 * y + x)) s) x9 (xt_it (fun y9 s => xt_it (fun x9 s => xt_ci (∃ j, j < 3 ∧ xt_anc (xt_pf (xt_tD c r sd lv t) (xt_gw c sd t) (xt_gh c r sd t)) (j + 1) (8 * y9 + x9) = some (8 * y + x)) s) (xt_gw c sd t) s) y9 0)) from rfl] at h9
                  first
                  | rw [xt_ci1 c66] at h9
                  | rw [xt_ci0 c66] at h9
                  exact xt_fg (by repeat' constructor) h9
                · refine xt_iinc (lo' := [_, _, _, _, _, _, _]) C dX6_descendants_69 rfl rfl rfl rfl ?_
                  refine xt_iincN (z := 1) (lo' := [_, _, _, _, _, _, _]) C dX6_descendants_72 rfl rfl rfl ?_
                  refine xt_goto (tgt := 41) C dX6_descendants_75 (by decide) ?_
                  have h9 := ih2 (x9 + 1) (by omega)  (by omega)
                  rw [show xt_it (fun x9 s => xt_ci (∃ j, j < 3 ∧ xt_anc (xt_pf (xt_tD c r sd lv t) (xt_gw c sd t) (xt_gh c r sd t)) (j + 1) (8 * y9 + x9) = some (8 * y + x)) s) (x9 + 1) (xt_it (fun y9 s => xt_it (fun x9 s => xt_ci (∃ j, j < 3 ∧ xt_anc (xt_pf (xt_tD c r sd lv t) (xt_gw c sd t) (xt_gh c r sd t)) (j + 1) (8 * y9 + x9) = some (8 * y + x)) s) (xt_gw c sd t) s) y9 0) = xt_ci (∃ j, j < 3 ∧ xt_anc (xt_pf (xt_tD c r sd lv t) (xt_gw c sd t) (xt_gh c r sd t)) (j + 1) (8 * y9 + x9) = some (8 * y + x)) (xt_it (fun x9 s => xt_ci (∃ j, j < 3 ∧ xt_anc (xt_pf (xt_tD c r sd lv t) (xt_gw c sd t) (xt_gh c r sd t)) (j + 1) (8 * y9 + x9) = some (8 * y + x)) s) x9 (xt_it (fun y9 s => xt_it (fun x9 s => xt_ci (∃ j, j < 3 ∧ xt_anc (xt_pf (xt_tD c r sd lv t) (xt_gw c sd t) (xt_gh c r sd t)) (j + 1) (8 * y9 + x9) = some (8 * y + x)) s) (xt_gw c sd t) s) y9 0)) from rfl] at h9
                  first
                  | rw [xt_ci1 c66] at h9
                  | rw [xt_ci0 c66] at h9
                  exact xt_fg (by repeat' constructor) h9
          exact xt_fg (by repeat' constructor) (in2 ((xt_gw c sd t) + 1) 0 (by omega)  (by omega))
    exact xt_fg (by repeat' constructor) (out1 ((xt_gh c r sd t) + 1) 0 (by omega) (by omega))
  · exact absurd ⟨⟨x, hx, rfl⟩, y, hy, rfl⟩ c12
set_option maxRecDepth 20000 in
set_option maxHeartbeats 2000000 in
theorem ct_mdescendants_t {c r sd lv bo : Nat} (hM : xt_Mp S c r sd lv bo) {a x y : Int32} (hbad : ¬ ∃ j, j < xt_nt c r sd ∧ a = nI j) : xt_Ct E l yX6_descendants cX6_descendants 7 (some Jvm.ClassFile.FieldType.int) 5 107 0 0 [.ref (E.1 49), .int a, .int x, .int y] S (xt_Ep (some (.int (nI 0))) (xt_mr S 1)) := by
  refine xt_body (by decide +kernel) (xt_all rfl) (Nat.le_of_ble_eq_true rfl) (fun cx C hl9 => ?_)
  show xt_X E cx _ 0 0 0 [some (.ref (E.1 49)), some (.int a), some (.int x), some (.int y), none, none, none] [] S
  have hM9 := hM
  obtain ⟨hc, hr, hs, hv, hb, b1, b2, b3, b4, b5, b6, b7⟩ := hM
  refine xt_aload_n C dX6_descendants_0 rfl ?_
  refine xt_iconst (v := nI 0) C dX6_descendants_1 rfl ?_
  refine xt_put (f := 0) C xt_u6 rfl (by decide) (xt_cl49 _ _) (by decide) tyX6 tyX6_ok nmX6 lkX6_74 rfl (tyX6_ok 0 (by decide)) rfl rfl (Nat.le_of_ble_eq_true rfl) rfl dX6_descendants_2 ?_
  refine xt_aload_n C dX6_descendants_5 rfl ?_
  refine xt_iload_n C dX6_descendants_6 rfl ?_
  refine xt_iload_n C dX6_descendants_7 rfl ?_
  refine xt_iload_n C dX6_descendants_8 rfl ?_
  refine xt_cV C mv_X6_hasPlace lkX6_184 (ct_mhasPlace0 (by exact hM9) hbad) rfl (by decide) (xt_cl49 _ _) rfl (by decide) rfl (Nat.le_of_ble_eq_true rfl) dX6_descendants_9 ?_
  refine xt_if_neN (tgt := 21) C dX6_descendants_12 (by decide) (by omega) (fun c12 => ?_) (fun c12 => ?_)
  · exact absurd c12 (by decide)
  · refine xt_aload_n C dX6_descendants_15 rfl ?_
    refine xt_iconst (v := nI 1) C dX6_descendants_16 rfl ?_
    refine xt_cV C mv_X6_raises lkX6_142 ct_mraises rfl (by decide) (xt_cl49 _ _) rfl (by decide) rfl (Nat.le_of_ble_eq_true rfl) dX6_descendants_17 ?_
    exact xt_iret C dX6_descendants_20 ⟨by decide, by decide⟩ ⟨rfl, xt_mr_x xt_mfr_rf⟩
set_option maxRecDepth 20000 in
set_option maxHeartbeats 2000000 in
theorem ct_mdescendants_p {c r sd lv bo : Nat} (hM : xt_Mp S c r sd lv bo) {t : Nat} (ht : t < xt_nt c r sd) {v k : Nat → Int32} (hvv : ∀ j, j < 256 → xt_mV S j = v j) (hkk : ∀ j, j < 256 → xt_mK S j = k j) (hvr : ∀ j, j < 256 → ∃ m, m ≤ 255 ∧ v j = nI m) (hk : ∀ j, j < 256 → k j = nI 0 ∨ k j = nI 1) {x y : Int32} (hbad : ¬ xt_pix (xt_gw c sd t) (xt_gh c r sd t) x y) : xt_Ct E l yX6_descendants cX6_descendants 7 (some Jvm.ClassFile.FieldType.int) 5 107 0 0 [.ref (E.1 49), .int (nI t), .int x, .int y] S (xt_Ep (some (.int (nI 0))) (xt_mr S 1)) := by
  refine xt_body (by decide +kernel) (xt_all rfl) (Nat.le_of_ble_eq_true rfl) (fun cx C hl9 => ?_)
  show xt_X E cx _ 0 0 0 [some (.ref (E.1 49)), some (.int (nI t)), some (.int x), some (.int y), none, none, none] [] S
  have hM9 := hM
  obtain ⟨hc, hr, hs, hv, hb, b1, b2, b3, b4, b5, b6, b7⟩ := hM
  have hn := xt_nt_b ⟨b1, b2⟩ ⟨b3, b4⟩ b5
  have hT := xt_tile_b ⟨b1, b2⟩ ⟨b3, b4⟩ b5 ht
  have hdl : (xt_tD c r sd lv t) ≤ 3 := xt_dep_le.2
  refine xt_aload_n C dX6_descendants_0 rfl ?_
  refine xt_iconst (v := nI 0) C dX6_descendants_1 rfl ?_
  refine xt_put (f := 0) C xt_u6 rfl (by decide) (xt_cl49 _ _) (by decide) tyX6 tyX6_ok nmX6 lkX6_74 rfl (tyX6_ok 0 (by decide)) rfl rfl (Nat.le_of_ble_eq_true rfl) rfl dX6_descendants_2 ?_
  refine xt_aload_n C dX6_descendants_5 rfl ?_
  refine xt_iload_n C dX6_descendants_6 rfl ?_
  refine xt_iload_n C dX6_descendants_7 rfl ?_
  refine xt_iload_n C dX6_descendants_8 rfl ?_
  refine xt_cVp C mv_X6_hasPlace lkX6_184 (ct_mhasPlace (by exact hM9) ht (by exact hvv) (by exact hkk) hvr hk) rfl (by decide) (xt_cl49 _ _) rfl (by decide) rfl (Nat.le_of_ble_eq_true rfl) dX6_descendants_9 (fun S9 hq9 => ?_)
  obtain ⟨hfr, hL⟩ := hq9
  rename xt_St => T1
  have hMt := hL.1
  obtain ⟨m1, m2, m3, m4, g1, g2, g3, g4, g5, g6, g7⟩ := id hMt
  refine xt_if_neB (tgt := 21) C dX6_descendants_12 (by decide) (fun c12 => ?_) (fun c12 => ?_)
  · exact absurd c12 hbad
  · refine xt_aload_n C dX6_descendants_15 rfl ?_
    refine xt_iconst (v := nI 1) C dX6_descendants_16 rfl ?_
    refine xt_cV C mv_X6_raises lkX6_142 ct_mraises rfl (by decide) (xt_cl49 _ _) rfl (by decide) rfl (Nat.le_of_ble_eq_true rfl) dX6_descendants_17 ?_
    exact xt_iret C dX6_descendants_20 ⟨by decide, by decide⟩ ⟨rfl, xt_mr_x hfr⟩
end XM10
