/-! THE TILER: size, setting, pixel, set -/
section XC25
variable {E : xt_Ev} {l : Launch} {S : xt_St}
def xt_Ex (X0 : String) (S0 : xt_St) : String → xt_St → Prop := fun X S' => X = X0 ∧ S' = S0
def xt_Hi (S : xt_St) (nx kp : Nat) : Prop := S.1 7 1 = nI nx ∧ S.1 7 2 = nI kp ∧ nx < 8 ∧ kp ≤ 8
theorem xt_keep_1 {S : xt_St} {nx kp i f : Nat} (h7 : i ≠ 7) (h9 : i ≠ 9 + 3 * nx) : (xt_keep S nx kp).1 i f = S.1 i f := by
  unfold xt_keep xt_cp
  simp [xt_sN, h7, h9]
theorem xt_keep_2 {S : xt_St} {nx kp i : Nat} (h1 : i ≠ 9 + 3 * nx + 1) (h2 : i ≠ 9 + 3 * nx + 2) : (xt_keep S nx kp).2.1 i = S.2.1 i := by
  unfold xt_keep xt_cp
  funext j
  simp [xt_sN, xt_cpA, h1, h2]
theorem xt_keep_P {S : xt_St} {nx kp c r sd lv bo : Nat} (h : xt_Pic S 1 c r sd lv bo) : xt_Pic (xt_keep S nx kp) 1 c r sd lv bo := by
  unfold xt_Pic at h ⊢
  rw [xt_keep_1 (by decide) (by omega), xt_keep_1 (by decide) (by omega), xt_keep_1 (by decide) (by omega), xt_keep_1 (by decide) (by omega), xt_keep_1 (by decide) (by omega)]
  exact h
theorem xt_ix9 {x y c r : Nat} (hx : x < c) (hy : y < r) (hc : c ≤ 16) (hr : r ≤ 16) : y * c + x < 256 := by
  have h1 : (y + 1) * c ≤ 16 * 16 := Nat.mul_le_mul (by omega) hc
  rw [Nat.add_mul] at h1
  omega
set_option maxRecDepth 20000 in
set_option maxHeartbeats 2000000 in
theorem ct_size_ok {QX : String → xt_St → Prop} {c r sd lv bo : Nat} (hP : xt_Pic S 1 c r sd lv bo) {nx kp : Nat} (hh : xt_Hi S nx kp) {c2 r2 : Nat} (hc2 : 2 ≤ c2 ∧ c2 ≤ 16) (hr2 : 2 ≤ r2 ∧ r2 ≤ 16) : xt_CtX E l yX5_size cX5_size 3 (some Jvm.ClassFile.FieldType.int) 7 110 1 6 [.ref (E.1 0), .int (nI c2), .int (nI r2)] S (xt_Eq (some (.int (nI (xt_nt c2 r2 sd)))) (xt_sA (xt_sA (xt_sN (xt_sN (xt_keep S nx kp) 1 0 (nI c2)) 1 1 (nI r2)) 2 (xt_zero 256 ((xt_keep S nx kp).2.1 2))) 3 (xt_zero 256 ((xt_keep S nx kp).2.1 3)))) QX := by
  refine xt_bodyX (by decide +kernel) (xt_all rfl) (Nat.le_of_ble_eq_true rfl) (fun cx C hl9 hx9 => ?_)
  show xt_X E cx _ 0 0 0 [some (.ref (E.1 0)), some (.int (nI c2)), some (.int (nI r2))] [] S
  refine xt_iload_n C dX5_size_0 rfl ?_
  refine xt_iconst (v := nI 2) C dX5_size_1 rfl ?_
  refine xt_bipush (v := nI 16) C dX5_size_2 (by decide) ?_
  refine xt_cS C ms_X5_isBetween lkX5_61 ct_between rfl (by decide) rfl (Nat.le_of_ble_eq_true rfl) dX5_size_4 ?_
  refine xt_if_eqB (tgt := 20) C dX5_size_7 (by decide) (fun c7 => ?_) (fun c7 => ?_)
  · exact absurd ⟨nI_le hc2.1 (by omega), nI_le hc2.2 (by omega)⟩ c7
  · refine xt_iload_n C dX5_size_10 rfl ?_
    refine xt_iconst (v := nI 2) C dX5_size_11 rfl ?_
    refine xt_bipush (v := nI 16) C dX5_size_12 (by decide) ?_
    refine xt_cS C ms_X5_isBetween lkX5_61 ct_between rfl (by decide) rfl (Nat.le_of_ble_eq_true rfl) dX5_size_14 ?_
    refine xt_if_neB (tgt := 30) C dX5_size_17 (by decide) (fun c17 => ?_) (fun c17 => ?_)
    · refine xt_aload_n C dX5_size_30 rfl ?_
      refine xt_get (f := 3) C xt_u5 rfl (by decide) (xt_cl0 _ _) (by decide) lkX5_26 rfl dX5_size_31 ?_
      refine xt_aload_n C dX5_size_34 rfl ?_
      refine xt_get (f := 0) C xt_u5 rfl (by decide) (xt_cl0 _ _) (by decide) lkX5_10 rfl dX5_size_35 ?_
      refine xt_cVNn C mv_X0_keep lkX5_72 (ct_keep hh.1 hh.2.1 hh.2.2.1 hh.2.2.2) rfl (by decide) (xt_cl7 _ _) rfl (by decide) rfl (Nat.le_of_ble_eq_true rfl) dX5_size_38 ?_
      refine xt_aload_n C dX5_size_41 rfl ?_
      refine xt_get (f := 0) C xt_u5 rfl (by decide) (xt_cl0 _ _) (by decide) lkX5_10 rfl dX5_size_42 ?_
      refine xt_iload_n C dX5_size_45 rfl ?_
      refine xt_iload_n C dX5_size_46 rfl ?_
      refine xt_cVNn C mv_X1_clear lkX5_76 ct_clear rfl (by decide) (xt_cl1 _ _) rfl (by decide) rfl (Nat.le_of_ble_eq_true rfl) dX5_size_47 ?_
      have hP2 : xt_Pic (xt_sA (xt_sA (xt_sN (xt_sN (xt_keep S nx kp) 1 0 (nI c2)) 1 1 (nI r2)) 2 (xt_zero 256 ((xt_keep S nx kp).2.1 2))) 3 (xt_zero 256 ((xt_keep S nx kp).2.1 3))) 1 c2 r2 sd lv bo := by
        have hk := xt_keep_P (nx := nx) (kp := kp) hP
        exact ⟨rfl, rfl, hk.2.2.1, hk.2.2.2.1, hk.2.2.2.2.1, hc2.1, hc2.2, hr2.1, hr2.2, hk.2.2.2.2.2.2.2.2.2⟩
      refine xt_aload_n C dX5_size_50 rfl ?_
      refine xt_get (f := 0) C xt_u5 rfl (by decide) (xt_cl0 _ _) (by decide) lkX5_10 rfl dX5_size_51 ?_
      refine xt_cVN C mv_X1_tileTotal lkX5_80 (ct_total hP2) rfl (by decide) (xt_cl1 _ _) rfl (by decide) rfl (Nat.le_of_ble_eq_true rfl) dX5_size_54 ?_
      refine xt_ofM ?_
      exact xt_iret C dX5_size_57 ⟨by decide, by decide⟩ ⟨rfl, rfl⟩
    · exact absurd ⟨nI_le hr2.1 (by omega), nI_le hr2.2 (by omega)⟩ c17
set_option maxRecDepth 20000 in
set_option maxHeartbeats 2000000 in
theorem ct_size_bad {Q : Option Value → xt_St → Prop} (hst : l.stackTraces = false) {a b : Int32} (hb : ¬ ((nI 2 ≤ a ∧ a ≤ nI 16) ∧ (nI 2 ≤ b ∧ b ≤ nI 16))) : xt_CtX E l yX5_size cX5_size 3 (some Jvm.ClassFile.FieldType.int) 7 110 1 6 [.ref (E.1 0), .int a, .int b] S Q (xt_Ex "java/lang/IllegalArgumentException" S) := by
  refine xt_bodyX (by decide +kernel) (xt_all rfl) (Nat.le_of_ble_eq_true rfl) (fun cx C hl9 hx9 => ?_)
  show xt_X E cx _ 0 0 0 [some (.ref (E.1 0)), some (.int a), some (.int b)] [] S
  refine xt_iload_n C dX5_size_0 rfl ?_
  refine xt_iconst (v := nI 2) C dX5_size_1 rfl ?_
  refine xt_bipush (v := nI 16) C dX5_size_2 (by decide) ?_
  refine xt_cS C ms_X5_isBetween lkX5_61 ct_between rfl (by decide) rfl (Nat.le_of_ble_eq_true rfl) dX5_size_4 ?_
  refine xt_if_eqB (tgt := 20) C dX5_size_7 (by decide) (fun c7 => ?_) (fun c7 => ?_)
  · exact xt_throwS (i := 0) C (by rw [hl9]; exact hst) hx9 xw_65 rfl dX5_size_20 dX5_size_23 dX5_size_24 dX5_size_26 dX5_size_29 rfl ⟨by decide, by decide, by decide, by decide⟩ (by decide) ⟨by decide, by decide⟩ ⟨rfl, rfl⟩
  · refine xt_iload_n C dX5_size_10 rfl ?_
    refine xt_iconst (v := nI 2) C dX5_size_11 rfl ?_
    refine xt_bipush (v := nI 16) C dX5_size_12 (by decide) ?_
    refine xt_cS C ms_X5_isBetween lkX5_61 ct_between rfl (by decide) rfl (Nat.le_of_ble_eq_true rfl) dX5_size_14 ?_
    refine xt_if_neB (tgt := 30) C dX5_size_17 (by decide) (fun c17 => ?_) (fun c17 => ?_)
    · exact absurd ⟨c7, c17⟩ hb
    · exact xt_throwS (i := 0) C (by rw [hl9]; exact hst) hx9 xw_65 rfl dX5_size_20 dX5_size_23 dX5_size_24 dX5_size_26 dX5_size_29 rfl ⟨by decide, by decide, by decide, by decide⟩ (by decide) ⟨by decide, by decide⟩ ⟨rfl, rfl⟩
set_option maxRecDepth 20000 in
set_option maxHeartbeats 2000000 in
theorem ct_setting_ok {QX : String → xt_St → Prop} {nx kp : Nat} (hh : xt_Hi S nx kp) {j : Nat} (hj : j < 3) {v : Int32} (hs : xt_set (nI j) v) : xt_CtX E l yX5_setting cX5_setting 4 (some Jvm.ClassFile.FieldType.int) 7 110 1 6 [.ref (E.1 0), .int (nI j), .int v] S (xt_Eq (some (.int (S.1 1 (2 + j)))) (xt_sN (xt_keep S nx kp) 1 (2 + j) v)) QX := by
  refine xt_bodyX (by decide +kernel) (xt_all rfl) (Nat.le_of_ble_eq_true rfl) (fun cx C hl9 hx9 => ?_)
  show xt_X E cx _ 0 0 0 [some (.ref (E.1 0)), some (.int (nI j)), some (.int v), none] [] S
  refine xt_iload_n C dX5_setting_0 rfl ?_
  refine xt_iload_n C dX5_setting_1 rfl ?_
  refine xt_cS C ms_X5_isSettable lkX5_84 ct_isSettable rfl (by decide) rfl (Nat.le_of_ble_eq_true rfl) dX5_setting_2 ?_
  refine xt_if_neB (tgt := 18) C dX5_setting_5 (by decide) (fun c5 => ?_) (fun c5 => ?_)
  · refine xt_aload_n C dX5_setting_18 rfl ?_
    refine xt_get (f := 0) C xt_u5 rfl (by decide) (xt_cl0 _ _) (by decide) lkX5_10 rfl dX5_setting_19 ?_
    refine xt_iload_n C dX5_setting_22 rfl ?_
    refine xt_cVN C mv_X1_chosen lkX5_90 (ct_chosen hj) rfl (by decide) (xt_cl1 _ _) rfl (by decide) rfl (Nat.le_of_ble_eq_true rfl) dX5_setting_23 ?_
    refine xt_istore_n (lo' := [_, _, _, _]) C dX5_setting_26 (Nat.le_of_ble_eq_true rfl) rfl rfl ?_
    refine xt_aload_n C dX5_setting_27 rfl ?_
    refine xt_get (f := 3) C xt_u5 rfl (by decide) (xt_cl0 _ _) (by decide) lkX5_26 rfl dX5_setting_28 ?_
    refine xt_aload_n C dX5_setting_31 rfl ?_
    refine xt_get (f := 0) C xt_u5 rfl (by decide) (xt_cl0 _ _) (by decide) lkX5_10 rfl dX5_setting_32 ?_
    refine xt_cVNn C mv_X0_keep lkX5_72 (ct_keep hh.1 hh.2.1 hh.2.2.1 hh.2.2.2) rfl (by decide) (xt_cl7 _ _) rfl (by decide) rfl (Nat.le_of_ble_eq_true rfl) dX5_setting_35 ?_
    refine xt_aload_n C dX5_setting_38 rfl ?_
    refine xt_get (f := 0) C xt_u5 rfl (by decide) (xt_cl0 _ _) (by decide) lkX5_10 rfl dX5_setting_39 ?_
    refine xt_iload_n C dX5_setting_42 rfl ?_
    refine xt_iload_n C dX5_setting_43 rfl ?_
    refine xt_cVNn C mv_X1_choose lkX5_94 (ct_choose hj) rfl (by decide) (xt_cl1 _ _) rfl (by decide) rfl (Nat.le_of_ble_eq_true rfl) dX5_setting_44 ?_
    refine xt_iload_n C dX5_setting_47 rfl ?_
    refine xt_ofM ?_
    exact xt_iret C dX5_setting_48 ⟨by decide, by decide⟩ ⟨rfl, rfl⟩
  · exact absurd hs c5
set_option maxRecDepth 20000 in
set_option maxHeartbeats 2000000 in
theorem ct_setting_bad {Q : Option Value → xt_St → Prop} (hst : l.stackTraces = false) {a v : Int32} (hs : ¬ xt_set a v) : xt_CtX E l yX5_setting cX5_setting 4 (some Jvm.ClassFile.FieldType.int) 7 110 1 6 [.ref (E.1 0), .int a, .int v] S Q (xt_Ex "java/lang/IllegalArgumentException" S) := by
  refine xt_bodyX (by decide +kernel) (xt_all rfl) (Nat.le_of_ble_eq_true rfl) (fun cx C hl9 hx9 => ?_)
  show xt_X E cx _ 0 0 0 [some (.ref (E.1 0)), some (.int a), some (.int v), none] [] S
  refine xt_iload_n C dX5_setting_0 rfl ?_
  refine xt_iload_n C dX5_setting_1 rfl ?_
  refine xt_cS C ms_X5_isSettable lkX5_84 ct_isSettable rfl (by decide) rfl (Nat.le_of_ble_eq_true rfl) dX5_setting_2 ?_
  refine xt_if_neB (tgt := 18) C dX5_setting_5 (by decide) (fun c5 => ?_) (fun c5 => ?_)
  · exact absurd c5 hs
  · exact xt_throwS (i := 1) C (by rw [hl9]; exact hst) hx9 xw_65 rfl dX5_setting_8 dX5_setting_11 dX5_setting_12 dX5_setting_14 dX5_setting_17 rfl ⟨by decide, by decide, by decide, by decide⟩ (by decide) ⟨by decide, by decide⟩ ⟨rfl, rfl⟩
set_option maxRecDepth 20000 in
set_option maxHeartbeats 2000000 in
theorem ct_pixel_ok {QX : String → xt_St → Prop} {c r sd lv bo : Nat} (hP : xt_Pic S 1 c r sd lv bo) {x y : Nat} (hx : x < c) (hy : y < r) : xt_CtX E l yX5_pixel cX5_pixel 3 (some Jvm.ClassFile.FieldType.int) 7 110 1 6 [.ref (E.1 0), .int (nI x), .int (nI y)] S (xt_Eq (some (.int (S.2.1 2 (y * c + x)))) S) QX := by
  refine xt_bodyX (by decide +kernel) (xt_all rfl) (Nat.le_of_ble_eq_true rfl) (fun cx C hl9 hx9 => ?_)
  show xt_X E cx _ 0 0 0 [some (.ref (E.1 0)), some (.int (nI x)), some (.int (nI y))] [] S
  have hP9 := hP
  obtain ⟨hc, hr, hs, hv, hb, b1, b2, b3, b4, b5, b6, b7⟩ := hP
  refine xt_aload_n C dX5_pixel_0 rfl ?_
  refine xt_get (f := 0) C xt_u5 rfl (by decide) (xt_cl0 _ _) (by decide) lkX5_10 rfl dX5_pixel_1 ?_
  refine xt_iload_n C dX5_pixel_4 rfl ?_
  refine xt_iload_n C dX5_pixel_5 rfl ?_
  refine xt_cVN C mv_X1_has lkX5_131 (ct_has hP9) rfl (by decide) (xt_cl1 _ _) rfl (by decide) rfl (Nat.le_of_ble_eq_true rfl) dX5_pixel_6 ?_
  refine xt_if_neB (tgt := 22) C dX5_pixel_9 (by decide) (fun c9 => ?_) (fun c9 => ?_)
  · refine xt_aload_n C dX5_pixel_22 rfl ?_
    refine xt_get (f := 0) C xt_u5 rfl (by decide) (xt_cl0 _ _) (by decide) lkX5_10 rfl dX5_pixel_23 ?_
    refine xt_getN (f := 5) C xt_u1 rfl (by decide) (xt_cl1 _ _) (by decide) lkX5_120 rfl dX5_pixel_26 ?_
    refine xt_aload_n C dX5_pixel_29 rfl ?_
    refine xt_get (f := 0) C xt_u5 rfl (by decide) (xt_cl0 _ _) (by decide) lkX5_10 rfl dX5_pixel_30 ?_
    refine xt_iload_n C dX5_pixel_33 rfl ?_
    refine xt_iload_n C dX5_pixel_34 rfl ?_
    refine xt_cVN C mv_X1_indexOf lkX5_141 (ct_indexOf hP9) rfl (by decide) (xt_cl1 _ _) rfl (by decide) rfl (Nat.le_of_ble_eq_true rfl) dX5_pixel_35 ?_
    refine xt_cS C ms_X5_at lkX5_145 (ct_at (by decide) (xt_cl2 _) (by decide) (xt_ix9 hx hy b2 b4) rfl) rfl (by decide) rfl (Nat.le_of_ble_eq_true rfl) dX5_pixel_38 ?_
    refine xt_ofM ?_
    exact xt_iret C dX5_pixel_41 ⟨by decide, by decide⟩ ⟨rfl, rfl⟩
  · exact absurd ⟨⟨x, hx, rfl⟩, y, hy, rfl⟩ c9
set_option maxRecDepth 20000 in
set_option maxHeartbeats 2000000 in
theorem ct_pixel_bad {Q : Option Value → xt_St → Prop} (hst : l.stackTraces = false) {c r sd lv bo : Nat} (hP : xt_Pic S 1 c r sd lv bo) {x y : Int32} (hb : ¬ xt_pix c r x y) : xt_CtX E l yX5_pixel cX5_pixel 3 (some Jvm.ClassFile.FieldType.int) 7 110 1 6 [.ref (E.1 0), .int x, .int y] S Q (xt_Ex "java/lang/IndexOutOfBoundsException" S) := by
  refine xt_bodyX (by decide +kernel) (xt_all rfl) (Nat.le_of_ble_eq_true rfl) (fun cx C hl9 hx9 => ?_)
  show xt_X E cx _ 0 0 0 [some (.ref (E.1 0)), some (.int x), some (.int y)] [] S
  refine xt_aload_n C dX5_pixel_0 rfl ?_
  refine xt_get (f := 0) C xt_u5 rfl (by decide) (xt_cl0 _ _) (by decide) lkX5_10 rfl dX5_pixel_1 ?_
  refine xt_iload_n C dX5_pixel_4 rfl ?_
  refine xt_iload_n C dX5_pixel_5 rfl ?_
  refine xt_cVN C mv_X1_has lkX5_131 (ct_has hP) rfl (by decide) (xt_cl1 _ _) rfl (by decide) rfl (Nat.le_of_ble_eq_true rfl) dX5_pixel_6 ?_
  refine xt_if_neB (tgt := 22) C dX5_pixel_9 (by decide) (fun c9 => ?_) (fun c9 => ?_)
  · exact absurd c9 hb
  · exact xt_throwS (i := 3) C (by rw [hl9]; exact hst) hx9 xw_134 rfl dX5_pixel_12 dX5_pixel_15 dX5_pixel_16 dX5_pixel_18 dX5_pixel_21 rfl ⟨by decide, by decide, by decide, by decide⟩ (by decide) ⟨by decide, by decide⟩ ⟨rfl, rfl⟩
set_option maxRecDepth 20000 in
set_option maxHeartbeats 2000000 in
theorem ct_set_ok {QX : String → xt_St → Prop} {c r sd lv bo : Nat} (hP : xt_Pic S 1 c r sd lv bo) {x y : Nat} (hx : x < c) (hy : y < r) {nx kp : Nat} (hh : xt_Hi S nx kp) {v : Int32} (hv9 : nI 0 ≤ v ∧ v ≤ nI 255) : xt_CtX E l yX5_set cX5_set 6 (some Jvm.ClassFile.FieldType.int) 7 110 1 6 [.ref (E.1 0), .int (nI x), .int (nI y), .int v] S (xt_Eq (some (.int (S.2.1 2 (y * c + x)))) (xt_sA (xt_keep S nx kp) 2 (upd ((xt_keep S nx kp).2.1 2) (y * c + x) v))) QX := by
  refine xt_bodyX (by decide +kernel) (xt_all rfl) (Nat.le_of_ble_eq_true rfl) (fun cx C hl9 hx9 => ?_)
  show xt_X E cx _ 0 0 0 [some (.ref (E.1 0)), some (.int (nI x)), some (.int (nI y)), some (.int v), none, none] [] S
  have hP9 := hP
  obtain ⟨hc, hr, hs, hv, hb, b1, b2, b3, b4, b5, b6, b7⟩ := hP
  refine xt_aload_n C dX5_set_0 rfl ?_
  refine xt_get (f := 0) C xt_u5 rfl (by decide) (xt_cl0 _ _) (by decide) lkX5_10 rfl dX5_set_1 ?_
  refine xt_iload_n C dX5_set_4 rfl ?_
  refine xt_iload_n C dX5_set_5 rfl ?_
  refine xt_cVN C mv_X1_has lkX5_131 (ct_has hP9) rfl (by decide) (xt_cl1 _ _) rfl (by decide) rfl (Nat.le_of_ble_eq_true rfl) dX5_set_6 ?_
  refine xt_if_neB (tgt := 22) C dX5_set_9 (by decide) (fun c9 => ?_) (fun c9 => ?_)
  · refine xt_iload_n C dX5_set_22 rfl ?_
    refine xt_iconst (v := nI 0) C dX5_set_23 rfl ?_
    refine xt_sipush (v := nI 255) C dX5_set_24 (by decide) ?_
    refine xt_cS C ms_X5_isBetween lkX5_61 ct_between rfl (by decide) rfl (Nat.le_of_ble_eq_true rfl) dX5_set_27 ?_
    refine xt_if_neB (tgt := 43) C dX5_set_30 (by decide) (fun c30 => ?_) (fun c30 => ?_)
    · refine xt_aload_n C dX5_set_43 rfl ?_
      refine xt_get (f := 0) C xt_u5 rfl (by decide) (xt_cl0 _ _) (by decide) lkX5_10 rfl dX5_set_44 ?_
      refine xt_iload_n C dX5_set_47 rfl ?_
      refine xt_iload_n C dX5_set_48 rfl ?_
      refine xt_cVN C mv_X1_indexOf lkX5_141 (ct_indexOf hP9) rfl (by decide) (xt_cl1 _ _) rfl (by decide) rfl (Nat.le_of_ble_eq_true rfl) dX5_set_49 ?_
      refine xt_istore (lo' := [_, _, _, _, _, _]) C dX5_set_52 (Nat.le_of_ble_eq_true rfl) rfl rfl ?_
      refine xt_aload_n C dX5_set_54 rfl ?_
      refine xt_get (f := 0) C xt_u5 rfl (by decide) (xt_cl0 _ _) (by decide) lkX5_10 rfl dX5_set_55 ?_
      refine xt_getN (f := 5) C xt_u1 rfl (by decide) (xt_cl1 _ _) (by decide) lkX5_120 rfl dX5_set_58 ?_
      refine xt_iload C dX5_set_61 rfl ?_
      refine xt_cS C ms_X5_at lkX5_145 (ct_at (by decide) (xt_cl2 _) (by decide) (xt_ix9 hx hy b2 b4) rfl) rfl (by decide) rfl (Nat.le_of_ble_eq_true rfl) dX5_set_63 ?_
      refine xt_istore (lo' := [_, _, _, _, _, _]) C dX5_set_66 (Nat.le_of_ble_eq_true rfl) rfl rfl ?_
      refine xt_aload_n C dX5_set_68 rfl ?_
      refine xt_get (f := 3) C xt_u5 rfl (by decide) (xt_cl0 _ _) (by decide) lkX5_26 rfl dX5_set_69 ?_
      refine xt_aload_n C dX5_set_72 rfl ?_
      refine xt_get (f := 0) C xt_u5 rfl (by decide) (xt_cl0 _ _) (by decide) lkX5_10 rfl dX5_set_73 ?_
      refine xt_cVNn C mv_X0_keep lkX5_72 (ct_keep hh.1 hh.2.1 hh.2.2.1 hh.2.2.2) rfl (by decide) (xt_cl7 _ _) rfl (by decide) rfl (Nat.le_of_ble_eq_true rfl) dX5_set_76 ?_
      refine xt_aload_n C dX5_set_79 rfl ?_
      refine xt_get (f := 0) C xt_u5 rfl (by decide) (xt_cl0 _ _) (by decide) lkX5_10 rfl dX5_set_80 ?_
      refine xt_getN (f := 5) C xt_u1 rfl (by decide) (xt_cl1 _ _) (by decide) lkX5_120 rfl dX5_set_83 ?_
      refine xt_iload C dX5_set_86 rfl ?_
      refine xt_iload_n C dX5_set_88 rfl ?_
      refine xt_cSn C ms_X5_put lkX5_149 (ct_put (by decide) (xt_cl2 _) (by decide) (xt_ix9 hx hy b2 b4)) rfl (by decide) rfl (Nat.le_of_ble_eq_true rfl) dX5_set_89 ?_
      refine xt_iload C dX5_set_92 rfl ?_
      refine xt_ofM ?_
      exact xt_iret C dX5_set_94 ⟨by decide, by decide⟩ ⟨rfl, rfl⟩
    · exact absurd hv9 c30
  · exact absurd ⟨⟨x, hx, rfl⟩, y, hy, rfl⟩ c9
set_option maxRecDepth 20000 in
set_option maxHeartbeats 2000000 in
theorem ct_set_bad1 {Q : Option Value → xt_St → Prop} (hst : l.stackTraces = false) {c r sd lv bo : Nat} (hP : xt_Pic S 1 c r sd lv bo) {x y v : Int32} (hb : ¬ xt_pix c r x y) : xt_CtX E l yX5_set cX5_set 6 (some Jvm.ClassFile.FieldType.int) 7 110 1 6 [.ref (E.1 0), .int x, .int y, .int v] S Q (xt_Ex "java/lang/IndexOutOfBoundsException" S) := by
  refine xt_bodyX (by decide +kernel) (xt_all rfl) (Nat.le_of_ble_eq_true rfl) (fun cx C hl9 hx9 => ?_)
  show xt_X E cx _ 0 0 0 [some (.ref (E.1 0)), some (.int x), some (.int y), some (.int v), none, none] [] S
  refine xt_aload_n C dX5_set_0 rfl ?_
  refine xt_get (f := 0) C xt_u5 rfl (by decide) (xt_cl0 _ _) (by decide) lkX5_10 rfl dX5_set_1 ?_
  refine xt_iload_n C dX5_set_4 rfl ?_
  refine xt_iload_n C dX5_set_5 rfl ?_
  refine xt_cVN C mv_X1_has lkX5_131 (ct_has hP) rfl (by decide) (xt_cl1 _ _) rfl (by decide) rfl (Nat.le_of_ble_eq_true rfl) dX5_set_6 ?_
  refine xt_if_neB (tgt := 22) C dX5_set_9 (by decide) (fun c9 => ?_) (fun c9 => ?_)
  · exact absurd c9 hb
  · exact xt_throwS (i := 3) C (by rw [hl9]; exact hst) hx9 xw_134 rfl dX5_set_12 dX5_set_15 dX5_set_16 dX5_set_18 dX5_set_21 rfl ⟨by decide, by decide, by decide, by decide⟩ (by decide) ⟨by decide, by decide⟩ ⟨rfl, rfl⟩
set_option maxRecDepth 20000 in
set_option maxHeartbeats 2000000 in
theorem ct_set_bad2 {Q : Option Value → xt_St → Prop} (hst : l.stackTraces = false) {c r sd lv bo : Nat} (hP : xt_Pic S 1 c r sd lv bo) {x y v : Int32} (hb : xt_pix c r x y) (hv9 : ¬ (nI 0 ≤ v ∧ v ≤ nI 255)) : xt_CtX E l yX5_set cX5_set 6 (some Jvm.ClassFile.FieldType.int) 7 110 1 6 [.ref (E.1 0), .int x, .int y, .int v] S Q (xt_Ex "java/lang/IllegalArgumentException" S) := by
  refine xt_bodyX (by decide +kernel) (xt_all rfl) (Nat.le_of_ble_eq_true rfl) (fun cx C hl9 hx9 => ?_)
  show xt_X E cx _ 0 0 0 [some (.ref (E.1 0)), some (.int x), some (.int y), some (.int v), none, none] [] S
  refine xt_aload_n C dX5_set_0 rfl ?_
  refine xt_get (f := 0) C xt_u5 rfl (by decide) (xt_cl0 _ _) (by decide) lkX5_10 rfl dX5_set_1 ?_
  refine xt_iload_n C dX5_set_4 rfl ?_
  refine xt_iload_n C dX5_set_5 rfl ?_
  refine xt_cVN C mv_X1_has lkX5_131 (ct_has hP) rfl (by decide) (xt_cl1 _ _) rfl (by decide) rfl (Nat.le_of_ble_eq_true rfl) dX5_set_6 ?_
  refine xt_if_neB (tgt := 22) C dX5_set_9 (by decide) (fun c9 => ?_) (fun c9 => ?_)
  · refine xt_iload_n C dX5_set_22 rfl ?_
    refine xt_iconst (v := nI 0) C dX5_set_23 rfl ?_
    refine xt_sipush (v := nI 255) C dX5_set_24 (by decide) ?_
    refine xt_cS C ms_X5_isBetween lkX5_61 ct_between rfl (by decide) rfl (Nat.le_of_ble_eq_true rfl) dX5_set_27 ?_
    refine xt_if_neB (tgt := 43) C dX5_set_30 (by decide) (fun c30 => ?_) (fun c30 => ?_)
    · exact absurd c30 hv9
    · exact xt_throwS (i := 4) C (by rw [hl9]; exact hst) hx9 xw_65 rfl dX5_set_33 dX5_set_36 dX5_set_37 dX5_set_39 dX5_set_42 rfl ⟨by decide, by decide, by decide, by decide⟩ (by decide) ⟨by decide, by decide⟩ ⟨rfl, rfl⟩
  · exact absurd hb c9
end XC25
