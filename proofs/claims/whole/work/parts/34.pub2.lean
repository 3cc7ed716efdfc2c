/-! THE TILER: fill, mask, tileOf -/
section XC26
variable {E : xt_Ev} {l : Launch} {S : xt_St}
set_option maxRecDepth 20000 in
set_option maxHeartbeats 2000000 in
theorem ct_fill_ok {QX : String → xt_St → Prop} {c r sd lv bo : Nat} (hP : xt_Pic S 1 c r sd lv bo) {nx kp : Nat} (hh : xt_Hi S nx kp) {lf tp w h : Nat} (hw : lf + w ≤ c) (hh2 : tp + h ≤ r) (hw0 : 0 < w) (hh0 : 0 < h) {v : Int32} (hv9 : nI 0 ≤ v ∧ v ≤ nI 255) : xt_CtX E l yX5_fill cX5_fill 6 (some Jvm.ClassFile.FieldType.int) 7 110 1 6 [.ref (E.1 0), .int (nI lf), .int (nI tp), .int (nI (lf + w - 1)), .int (nI (tp + h - 1)), .int v] S (xt_Eq (some (.int (xt_paint c lf tp w h v ((xt_keep S nx kp).2.1 2)).2)) (xt_sA (xt_keep S nx kp) 2 (xt_paint c lf tp w h v ((xt_keep S nx kp).2.1 2)).1)) QX := by
  refine xt_bodyX (by decide +kernel) (xt_all rfl) (Nat.le_of_ble_eq_true rfl) (fun cx C hl9 hx9 => ?_)
  show xt_X E cx _ 0 0 0 [some (.ref (E.1 0)), some (.int (nI lf)), some (.int (nI tp)), some (.int (nI (lf + w - 1))), some (.int (nI (tp + h - 1))), some (.int v)] [] S
  have hP9 := hP
  obtain ⟨hc, hr, hs, hv, hb, b1, b2, b3, b4, b5, b6, b7⟩ := hP
  refine xt_aload_n C dX5_fill_0 rfl ?_
  refine xt_get (f := 0) C xt_u5 rfl (by decide) (xt_cl0 _ _) (by decide) lkX5_10 rfl dX5_fill_1 ?_
  refine xt_iload_n C dX5_fill_4 rfl ?_
  refine xt_iload_n C dX5_fill_5 rfl ?_
  refine xt_cVN C mv_X1_has lkX5_131 (ct_has hP9) rfl (by decide) (xt_cl1 _ _) rfl (by decide) rfl (Nat.le_of_ble_eq_true rfl) dX5_fill_6 ?_
  refine xt_if_eqB (tgt := 25) C dX5_fill_9 (by decide) (fun c9 => ?_) (fun c9 => ?_)
  · exact absurd ⟨⟨lf, by omega, rfl⟩, tp, by omega, rfl⟩ c9
  · refine xt_aload_n C dX5_fill_12 rfl ?_
    refine xt_get (f := 0) C xt_u5 rfl (by decide) (xt_cl0 _ _) (by decide) lkX5_10 rfl dX5_fill_13 ?_
    refine xt_iload_n C dX5_fill_16 rfl ?_
    refine xt_iload C dX5_fill_17 rfl ?_
    refine xt_cVN C mv_X1_has lkX5_131 (ct_has hP9) rfl (by decide) (xt_cl1 _ _) rfl (by decide) rfl (Nat.le_of_ble_eq_true rfl) dX5_fill_19 ?_
    refine xt_if_neB (tgt := 35) C dX5_fill_22 (by decide) (fun c22 => ?_) (fun c22 => ?_)
    · refine xt_iload_n C dX5_fill_35 rfl ?_
      refine xt_iload_n C dX5_fill_36 rfl ?_
      refine xt_icmp_gtN (tgt := 46) C dX5_fill_37 (by decide) (by omega) (by omega) (fun c37 => ?_) (fun c37 => ?_)
      · exact absurd c37 (by omega)
      · refine xt_iload_n C dX5_fill_40 rfl ?_
        refine xt_iload C dX5_fill_41 rfl ?_
        refine xt_icmp_leN (tgt := 56) C dX5_fill_43 (by decide) (by omega) (by omega) (fun c43 => ?_) (fun c43 => ?_)
        · refine xt_iload C dX5_fill_56 rfl ?_
          refine xt_iconst (v := nI 0) C dX5_fill_58 rfl ?_
          refine xt_sipush (v := nI 255) C dX5_fill_59 (by decide) ?_
          refine xt_cS C ms_X5_isBetween lkX5_61 ct_between rfl (by decide) rfl (Nat.le_of_ble_eq_true rfl) dX5_fill_62 ?_
          refine xt_if_neB (tgt := 78) C dX5_fill_65 (by decide) (fun c65 => ?_) (fun c65 => ?_)
          · refine xt_aload_n C dX5_fill_78 rfl ?_
            refine xt_get (f := 3) C xt_u5 rfl (by decide) (xt_cl0 _ _) (by decide) lkX5_26 rfl dX5_fill_79 ?_
            refine xt_aload_n C dX5_fill_82 rfl ?_
            refine xt_get (f := 0) C xt_u5 rfl (by decide) (xt_cl0 _ _) (by decide) lkX5_10 rfl dX5_fill_83 ?_
            refine xt_cVNn C mv_X0_keep lkX5_72 (ct_keep hh.1 hh.2.1 hh.2.2.1 hh.2.2.2) rfl (by decide) (xt_cl7 _ _) rfl (by decide) rfl (Nat.le_of_ble_eq_true rfl) dX5_fill_86 ?_
            refine xt_aload_n C dX5_fill_89 rfl ?_
            refine xt_get (f := 0) C xt_u5 rfl (by decide) (xt_cl0 _ _) (by decide) lkX5_10 rfl dX5_fill_90 ?_
            refine xt_aload_n C dX5_fill_93 rfl ?_
            refine xt_get (f := 0) C xt_u5 rfl (by decide) (xt_cl0 _ _) (by decide) lkX5_10 rfl dX5_fill_94 ?_
            refine xt_getN (f := 5) C xt_u1 rfl (by decide) (xt_cl1 _ _) (by decide) lkX5_120 rfl dX5_fill_97 ?_
            refine xt_iload_n C dX5_fill_100 rfl ?_
            refine xt_iload_n C dX5_fill_101 rfl ?_
            refine xt_iload_n C dX5_fill_102 rfl ?_
            refine xt_iload C dX5_fill_103 rfl ?_
            refine xt_iload C dX5_fill_105 rfl ?_
            refine xt_cVN C mv_X1_paint lkX5_157 (ct_paint (xt_keep_P hP9) (by decide) (xt_cl2 _) hw hh2 hw0 hh0) rfl (by decide) (xt_cl1 _ _) rfl (by decide) rfl (Nat.le_of_ble_eq_true rfl) dX5_fill_107 ?_
            refine xt_ofM ?_
            exact xt_iret C dX5_fill_110 ⟨by decide, by decide⟩ ⟨rfl, rfl⟩
          · exact absurd hv9 c65
        · exact absurd c43 (by omega)
    · exact absurd ⟨⟨lf + w - 1, by omega, rfl⟩, tp + h - 1, by omega, rfl⟩ c22
set_option maxRecDepth 20000 in
set_option maxHeartbeats 2000000 in
theorem ct_fill_bad3 {Q : Option Value → xt_St → Prop} (hst : l.stackTraces = false) {c r sd lv bo : Nat} (hP : xt_Pic S 1 c r sd lv bo) {x1 y1 x2 y2 v : Int32} (h1 : xt_pix c r x1 y1) (h2 : xt_pix c r x2 y2) (h3 : ¬ x2 < x1) (h4 : y1 ≤ y2) (h5 : ¬ (nI 0 ≤ v ∧ v ≤ nI 255)) : xt_CtX E l yX5_fill cX5_fill 6 (some Jvm.ClassFile.FieldType.int) 7 110 1 6 [.ref (E.1 0), .int x1, .int y1, .int x2, .int y2, .int v] S Q (xt_Ex "java/lang/IllegalArgumentException" S) := by
  refine xt_bodyX (by decide +kernel) (xt_all rfl) (Nat.le_of_ble_eq_true rfl) (fun cx C hl9 hx9 => ?_)
  show xt_X E cx _ 0 0 0 [some (.ref (E.1 0)), some (.int x1), some (.int y1), some (.int x2), some (.int y2), some (.int v)] [] S
  refine xt_aload_n C dX5_fill_0 rfl ?_
  refine xt_get (f := 0) C xt_u5 rfl (by decide) (xt_cl0 _ _) (by decide) lkX5_10 rfl dX5_fill_1 ?_
  refine xt_iload_n C dX5_fill_4 rfl ?_
  refine xt_iload_n C dX5_fill_5 rfl ?_
  refine xt_cVN C mv_X1_has lkX5_131 (ct_has hP) rfl (by decide) (xt_cl1 _ _) rfl (by decide) rfl (Nat.le_of_ble_eq_true rfl) dX5_fill_6 ?_
  refine xt_if_eqB (tgt := 25) C dX5_fill_9 (by decide) (fun c9 => ?_) (fun c9 => ?_)
  · exact absurd h1 c9
  · refine xt_aload_n C dX5_fill_12 rfl ?_
    refine xt_get (f := 0) C xt_u5 rfl (by decide) (xt_cl0 _ _) (by decide) lkX5_10 rfl dX5_fill_13 ?_
    refine xt_iload_n C dX5_fill_16 rfl ?_
    refine xt_iload C dX5_fill_17 rfl ?_
    refine xt_cVN C mv_X1_has lkX5_131 (ct_has hP) rfl (by decide) (xt_cl1 _ _) rfl (by decide) rfl (Nat.le_of_ble_eq_true rfl) dX5_fill_19 ?_
    refine xt_if_neB (tgt := 35) C dX5_fill_22 (by decide) (fun c22 => ?_) (fun c22 => ?_)
    · refine xt_iload_n C dX5_fill_35 rfl ?_
      refine xt_iload_n C dX5_fill_36 rfl ?_
      refine xt_icmp_gt (tgt := 46) C dX5_fill_37 (by decide) (fun c37 => ?_) (fun c37 => ?_)
      · exact absurd c37 h3
      · refine xt_iload_n C dX5_fill_40 rfl ?_
        refine xt_iload C dX5_fill_41 rfl ?_
        refine xt_icmp_le (tgt := 56) C dX5_fill_43 (by decide) (fun c43 => ?_) (fun c43 => ?_)
        · refine xt_iload C dX5_fill_56 rfl ?_
          refine xt_iconst (v := nI 0) C dX5_fill_58 rfl ?_
          refine xt_sipush (v := nI 255) C dX5_fill_59 (by decide) ?_
          refine xt_cS C ms_X5_isBetween lkX5_61 ct_between rfl (by decide) rfl (Nat.le_of_ble_eq_true rfl) dX5_fill_62 ?_
          refine xt_if_neB (tgt := 78) C dX5_fill_65 (by decide) (fun c65 => ?_) (fun c65 => ?_)
          · exact absurd c65 h5
          · exact xt_throwS (i := 4) C (by rw [hl9]; exact hst) hx9 xw_65 rfl dX5_fill_68 dX5_fill_71 dX5_fill_72 dX5_fill_74 dX5_fill_77 rfl ⟨by decide, by decide, by decide, by decide⟩ (by decide) ⟨by decide, by decide⟩ ⟨rfl, rfl⟩
        · exact absurd h4 c43
    · exact absurd h2 c22
set_option maxRecDepth 20000 in
set_option maxHeartbeats 2000000 in
theorem ct_fill_bad1 {Q : Option Value → xt_St → Prop} (hst : l.stackTraces = false) {c r sd lv bo : Nat} (hP : xt_Pic S 1 c r sd lv bo) {x1 y1 x2 y2 v : Int32} (hb : ¬ (xt_pix c r x1 y1 ∧ xt_pix c r x2 y2)) : xt_CtX E l yX5_fill cX5_fill 6 (some Jvm.ClassFile.FieldType.int) 7 110 1 6 [.ref (E.1 0), .int x1, .int y1, .int x2, .int y2, .int v] S Q (xt_Ex "java/lang/IndexOutOfBoundsException" S) := by
  refine xt_bodyX (by decide +kernel) (xt_all rfl) (Nat.le_of_ble_eq_true rfl) (fun cx C hl9 hx9 => ?_)
  show xt_X E cx _ 0 0 0 [some (.ref (E.1 0)), some (.int x1), some (.int y1), some (.int x2), some (.int y2), some (.int v)] [] S
  refine xt_aload_n C dX5_fill_0 rfl ?_
  refine xt_get (f := 0) C xt_u5 rfl (by decide) (xt_cl0 _ _) (by decide) lkX5_10 rfl dX5_fill_1 ?_
  refine xt_iload_n C dX5_fill_4 rfl ?_
  refine xt_iload_n C dX5_fill_5 rfl ?_
  refine xt_cVN C mv_X1_has lkX5_131 (ct_has hP) rfl (by decide) (xt_cl1 _ _) rfl (by decide) rfl (Nat.le_of_ble_eq_true rfl) dX5_fill_6 ?_
  refine xt_if_eqB (tgt := 25) C dX5_fill_9 (by decide) (fun c9 => ?_) (fun c9 => ?_)
  · exact xt_throwS (i := 5) C (by rw [hl9]; exact hst) hx9 xw_134 rfl dX5_fill_25 dX5_fill_28 dX5_fill_29 dX5_fill_31 dX5_fill_34 rfl ⟨by decide, by decide, by decide, by decide⟩ (by decide) ⟨by decide, by decide⟩ ⟨rfl, rfl⟩
  · refine xt_aload_n C dX5_fill_12 rfl ?_
    refine xt_get (f := 0) C xt_u5 rfl (by decide) (xt_cl0 _ _) (by decide) lkX5_10 rfl dX5_fill_13 ?_
    refine xt_iload_n C dX5_fill_16 rfl ?_
    refine xt_iload C dX5_fill_17 rfl ?_
    refine xt_cVN C mv_X1_has lkX5_131 (ct_has hP) rfl (by decide) (xt_cl1 _ _) rfl (by decide) rfl (Nat.le_of_ble_eq_true rfl) dX5_fill_19 ?_
    refine xt_if_neB (tgt := 35) C dX5_fill_22 (by decide) (fun c22 => ?_) (fun c22 => ?_)
    · exact absurd ⟨c9, c22⟩ hb
    · exact xt_throwS (i := 5) C (by rw [hl9]; exact hst) hx9 xw_134 rfl dX5_fill_25 dX5_fill_28 dX5_fill_29 dX5_fill_31 dX5_fill_34 rfl ⟨by decide, by decide, by decide, by decide⟩ (by decide) ⟨by decide, by decide⟩ ⟨rfl, rfl⟩
set_option maxRecDepth 20000 in
set_option maxHeartbeats 2000000 in
theorem ct_fill_bad2 {Q : Option Value → xt_St → Prop} (hst : l.stackTraces = false) {c r sd lv bo : Nat} (hP : xt_Pic S 1 c r sd lv bo) {x1 y1 x2 y2 v : Int32} (h1 : xt_pix c r x1 y1) (h2 : xt_pix c r x2 y2) (hb : x2 < x1 ∨ ¬ y1 ≤ y2) : xt_CtX E l yX5_fill cX5_fill 6 (some Jvm.ClassFile.FieldType.int) 7 110 1 6 [.ref (E.1 0), .int x1, .int y1, .int x2, .int y2, .int v] S Q (xt_Ex "java/lang/IllegalArgumentException" S) := by
  refine xt_bodyX (by decide +kernel) (xt_all rfl) (Nat.le_of_ble_eq_true rfl) (fun cx C hl9 hx9 => ?_)
  show xt_X E cx _ 0 0 0 [some (.ref (E.1 0)), some (.int x1), some (.int y1), some (.int x2), some (.int y2), some (.int v)] [] S
  refine xt_aload_n C dX5_fill_0 rfl ?_
  refine xt_get (f := 0) C xt_u5 rfl (by decide) (xt_cl0 _ _) (by decide) lkX5_10 rfl dX5_fill_1 ?_
  refine xt_iload_n C dX5_fill_4 rfl ?_
  refine xt_iload_n C dX5_fill_5 rfl ?_
  refine xt_cVN C mv_X1_has lkX5_131 (ct_has hP) rfl (by decide) (xt_cl1 _ _) rfl (by decide) rfl (Nat.le_of_ble_eq_true rfl) dX5_fill_6 ?_
  refine xt_if_eqB (tgt := 25) C dX5_fill_9 (by decide) (fun c9 => ?_) (fun c9 => ?_)
  · exact absurd h1 c9
  · refine xt_aload_n C dX5_fill_12 rfl ?_
    refine xt_get (f := 0) C xt_u5 rfl (by decide) (xt_cl0 _ _) (by decide) lkX5_10 rfl dX5_fill_13 ?_
    refine xt_iload_n C dX5_fill_16 rfl ?_
    refine xt_iload C dX5_fill_17 rfl ?_
    refine xt_cVN C mv_X1_has lkX5_131 (ct_has hP) rfl (by decide) (xt_cl1 _ _) rfl (by decide) rfl (Nat.le_of_ble_eq_true rfl) dX5_fill_19 ?_
    refine xt_if_neB (tgt := 35) C dX5_fill_22 (by decide) (fun c22 => ?_) (fun c22 => ?_)
    · refine xt_iload_n C dX5_fill_35 rfl ?_
      refine xt_iload_n C dX5_fill_36 rfl ?_
      refine xt_icmp_gt (tgt := 46) C dX5_fill_37 (by decide) (fun c37 => ?_) (fun c37 => ?_)
      · exact xt_throwS (i := 6) C (by rw [hl9]; exact hst) hx9 xw_65 rfl dX5_fill_46 dX5_fill_49 dX5_fill_50 dX5_fill_52 dX5_fill_55 rfl ⟨by decide, by decide, by decide, by decide⟩ (by decide) ⟨by decide, by decide⟩ ⟨rfl, rfl⟩
      · refine xt_iload_n C dX5_fill_40 rfl ?_
        refine xt_iload C dX5_fill_41 rfl ?_
        refine xt_icmp_le (tgt := 56) C dX5_fill_43 (by decide) (fun c43 => ?_) (fun c43 => ?_)
        · exact hb.elim (fun z => absurd z c37) (fun z => absurd c43 z)
        · exact xt_throwS (i := 6) C (by rw [hl9]; exact hst) hx9 xw_65 rfl dX5_fill_46 dX5_fill_49 dX5_fill_50 dX5_fill_52 dX5_fill_55 rfl ⟨by decide, by decide, by decide, by decide⟩ (by decide) ⟨by decide, by decide⟩ ⟨rfl, rfl⟩
    · exact absurd h2 c22
set_option maxRecDepth 20000 in
set_option maxHeartbeats 2000000 in
theorem ct_mask_bad1 {Q : Option Value → xt_St → Prop} (hst : l.stackTraces = false) {c r sd lv bo : Nat} (hP : xt_Pic S 1 c r sd lv bo) {x1 y1 x2 y2 v : Int32} (hb : ¬ (xt_pix c r x1 y1 ∧ xt_pix c r x2 y2)) : xt_CtX E l yX5_mask cX5_mask 6 (some Jvm.ClassFile.FieldType.int) 7 110 1 6 [.ref (E.1 0), .int x1, .int y1, .int x2, .int y2, .int v] S Q (xt_Ex "java/lang/IndexOutOfBoundsException" S) := by
  refine xt_bodyX (by decide +kernel) (xt_all rfl) (Nat.le_of_ble_eq_true rfl) (fun cx C hl9 hx9 => ?_)
  show xt_X E cx _ 0 0 0 [some (.ref (E.1 0)), some (.int x1), some (.int y1), some (.int x2), some (.int y2), some (.int v)] [] S
  refine xt_aload_n C dX5_mask_0 rfl ?_
  refine xt_get (f := 0) C xt_u5 rfl (by decide) (xt_cl0 _ _) (by decide) lkX5_10 rfl dX5_mask_1 ?_
  refine xt_iload_n C dX5_mask_4 rfl ?_
  refine xt_iload_n C dX5_mask_5 rfl ?_
  refine xt_cVN C mv_X1_has lkX5_131 (ct_has hP) rfl (by decide) (xt_cl1 _ _) rfl (by decide) rfl (Nat.le_of_ble_eq_true rfl) dX5_mask_6 ?_
  refine xt_if_eqB (tgt := 25) C dX5_mask_9 (by decide) (fun c9 => ?_) (fun c9 => ?_)
  · exact xt_throwS (i := 5) C (by rw [hl9]; exact hst) hx9 xw_134 rfl dX5_mask_25 dX5_mask_28 dX5_mask_29 dX5_mask_31 dX5_mask_34 rfl ⟨by decide, by decide, by decide, by decide⟩ (by decide) ⟨by decide, by decide⟩ ⟨rfl, rfl⟩
  · refine xt_aload_n C dX5_mask_12 rfl ?_
    refine xt_get (f := 0) C xt_u5 rfl (by decide) (xt_cl0 _ _) (by decide) lkX5_10 rfl dX5_mask_13 ?_
    refine xt_iload_n C dX5_mask_16 rfl ?_
    refine xt_iload C dX5_mask_17 rfl ?_
    refine xt_cVN C mv_X1_has lkX5_131 (ct_has hP) rfl (by decide) (xt_cl1 _ _) rfl (by decide) rfl (Nat.le_of_ble_eq_true rfl) dX5_mask_19 ?_
    refine xt_if_neB (tgt := 35) C dX5_mask_22 (by decide) (fun c22 => ?_) (fun c22 => ?_)
    · exact absurd ⟨c9, c22⟩ hb
    · exact xt_throwS (i := 5) C (by rw [hl9]; exact hst) hx9 xw_134 rfl dX5_mask_25 dX5_mask_28 dX5_mask_29 dX5_mask_31 dX5_mask_34 rfl ⟨by decide, by decide, by decide, by decide⟩ (by decide) ⟨by decide, by decide⟩ ⟨rfl, rfl⟩
set_option maxRecDepth 20000 in
set_option maxHeartbeats 2000000 in
theorem ct_mask_bad2 {Q : Option Value → xt_St → Prop} (hst : l.stackTraces = false) {c r sd lv bo : Nat} (hP : xt_Pic S 1 c r sd lv bo) {x1 y1 x2 y2 v : Int32} (h1 : xt_pix c r x1 y1) (h2 : xt_pix c r x2 y2) (hb : x2 < x1 ∨ ¬ y1 ≤ y2) : xt_CtX E l yX5_mask cX5_mask 6 (some Jvm.ClassFile.FieldType.int) 7 110 1 6 [.ref (E.1 0), .int x1, .int y1, .int x2, .int y2, .int v] S Q (xt_Ex "java/lang/IllegalArgumentException" S) := by
  refine xt_bodyX (by decide +kernel) (xt_all rfl) (Nat.le_of_ble_eq_true rfl) (fun cx C hl9 hx9 => ?_)
  show xt_X E cx _ 0 0 0 [some (.ref (E.1 0)), some (.int x1), some (.int y1), some (.int x2), some (.int y2), some (.int v)] [] S
  refine xt_aload_n C dX5_mask_0 rfl ?_
  refine xt_get (f := 0) C xt_u5 rfl (by decide) (xt_cl0 _ _) (by decide) lkX5_10 rfl dX5_mask_1 ?_
  refine xt_iload_n C dX5_mask_4 rfl ?_
  refine xt_iload_n C dX5_mask_5 rfl ?_
  refine xt_cVN C mv_X1_has lkX5_131 (ct_has hP) rfl (by decide) (xt_cl1 _ _) rfl (by decide) rfl (Nat.le_of_ble_eq_true rfl) dX5_mask_6 ?_
  refine xt_if_eqB (tgt := 25) C dX5_mask_9 (by decide) (fun c9 => ?_) (fun c9 => ?_)
  · exact absurd h1 c9
  · refine xt_aload_n C dX5_mask_12 rfl ?_
    refine xt_get (f := 0) C xt_u5 rfl (by decide) (xt_cl0 _ _) (by decide) lkX5_10 rfl dX5_mask_13 ?_
    refine xt_iload_n C dX5_mask_16 rfl ?_
    refine xt_iload C dX5_mask_17 rfl ?_
    refine xt_cVN C mv_X1_has lkX5_131 (ct_has hP) rfl (by decide) (xt_cl1 _ _) rfl (by decide) rfl (Nat.le_of_ble_eq_true rfl) dX5_mask_19 ?_
    refine xt_if_neB (tgt := 35) C dX5_mask_22 (by decide) (fun c22 => ?_) (fun c22 => ?_)
    · refine xt_iload_n C dX5_mask_35 rfl ?_
      refine xt_iload_n C dX5_mask_36 rfl ?_
      refine xt_icmp_gt (tgt := 46) C dX5_mask_37 (by decide) (fun c37 => ?_) (fun c37 => ?_)
      · exact xt_throwS (i := 6) C (by rw [hl9]; exact hst) hx9 xw_65 rfl dX5_mask_46 dX5_mask_49 dX5_mask_50 dX5_mask_52 dX5_mask_55 rfl ⟨by decide, by decide, by decide, by decide⟩ (by decide) ⟨by decide, by decide⟩ ⟨rfl, rfl⟩
      · refine xt_iload_n C dX5_mask_40 rfl ?_
        refine xt_iload C dX5_mask_41 rfl ?_
        refine xt_icmp_le (tgt := 56) C dX5_mask_43 (by decide) (fun c43 => ?_) (fun c43 => ?_)
        · exact hb.elim (fun z => absurd z c37) (fun z => absurd c43 z)
        · exact xt_throwS (i := 6) C (by rw [hl9]; exact hst) hx9 xw_65 rfl dX5_mask_46 dX5_mask_49 dX5_mask_50 dX5_mask_52 dX5_mask_55 rfl ⟨by decide, by decide, by decide, by decide⟩ (by decide) ⟨by decide, by decide⟩ ⟨rfl, rfl⟩
    · exact absurd h2 c22
set_option maxRecDepth 20000 in
set_option maxHeartbeats 2000000 in
theorem ct_mask_ok {QX : String → xt_St → Prop} {c r sd lv bo : Nat} (hP : xt_Pic S 1 c r sd lv bo) {nx kp : Nat} (hh : xt_Hi S nx kp) {lf tp w h : Nat} (hw : lf + w ≤ c) (hh2 : tp + h ≤ r) (hw0 : 0 < w) (hh0 : 0 < h) {m : Nat} (hm : m ≤ 1) : xt_CtX E l yX5_mask cX5_mask 6 (some Jvm.ClassFile.FieldType.int) 7 110 1 6 [.ref (E.1 0), .int (nI lf), .int (nI tp), .int (nI (lf + w - 1)), .int (nI (tp + h - 1)), .int (nI m)] S (xt_Eq (some (.int (xt_it (fun i s => s + (xt_sA (xt_keep S nx kp) 3 (xt_paint c lf tp w h (nI m) ((xt_keep S nx kp).2.1 3)).1).2.1 3 i) (c * r) 0))) (xt_sA (xt_keep S nx kp) 3 (xt_paint c lf tp w h (nI m) ((xt_keep S nx kp).2.1 3)).1)) QX := by
  refine xt_bodyX (by decide +kernel) (xt_all rfl) (Nat.le_of_ble_eq_true rfl) (fun cx C hl9 hx9 => ?_)
  show xt_X E cx _ 0 0 0 [some (.ref (E.1 0)), some (.int (nI lf)), some (.int (nI tp)), some (.int (nI (lf + w - 1))), some (.int (nI (tp + h - 1))), some (.int (nI m))] [] S
  have hP9 := hP
  obtain ⟨hc, hr, hs, hv, hb, b1, b2, b3, b4, b5, b6, b7⟩ := hP
  refine xt_aload_n C dX5_mask_0 rfl ?_
  refine xt_get (f := 0) C xt_u5 rfl (by decide) (xt_cl0 _ _) (by decide) lkX5_10 rfl dX5_mask_1 ?_
  refine xt_iload_n C dX5_mask_4 rfl ?_
  refine xt_iload_n C dX5_mask_5 rfl ?_
  refine xt_cVN C mv_X1_has lkX5_131 (ct_has hP9) rfl (by decide) (xt_cl1 _ _) rfl (by decide) rfl (Nat.le_of_ble_eq_true rfl) dX5_mask_6 ?_
  refine xt_if_eqB (tgt := 25) C dX5_mask_9 (by decide) (fun c9 => ?_) (fun c9 => ?_)
  · exact absurd ⟨⟨lf, by omega, rfl⟩, tp, by omega, rfl⟩ c9
  · refine xt_aload_n C dX5_mask_12 rfl ?_
    refine xt_get (f := 0) C xt_u5 rfl (by decide) (xt_cl0 _ _) (by decide) lkX5_10 rfl dX5_mask_13 ?_
    refine xt_iload_n C dX5_mask_16 rfl ?_
    refine xt_iload C dX5_mask_17 rfl ?_
    refine xt_cVN C mv_X1_has lkX5_131 (ct_has hP9) rfl (by decide) (xt_cl1 _ _) rfl (by decide) rfl (Nat.le_of_ble_eq_true rfl) dX5_mask_19 ?_
    refine xt_if_neB (tgt := 35) C dX5_mask_22 (by decide) (fun c22 => ?_) (fun c22 => ?_)
    · refine xt_iload_n C dX5_mask_35 rfl ?_
      refine xt_iload_n C dX5_mask_36 rfl ?_
      refine xt_icmp_gtN (tgt := 46) C dX5_mask_37 (by decide) (by omega) (by omega) (fun c37 => ?_) (fun c37 => ?_)
      · exact absurd c37 (by omega)
      · refine xt_iload_n C dX5_mask_40 rfl ?_
        refine xt_iload C dX5_mask_41 rfl ?_
        refine xt_icmp_leN (tgt := 56) C dX5_mask_43 (by decide) (by omega) (by omega) (fun c43 => ?_) (fun c43 => ?_)
        · refine xt_aload_n C dX5_mask_56 rfl ?_
          refine xt_get (f := 3) C xt_u5 rfl (by decide) (xt_cl0 _ _) (by decide) lkX5_26 rfl dX5_mask_57 ?_
          refine xt_aload_n C dX5_mask_60 rfl ?_
          refine xt_get (f := 0) C xt_u5 rfl (by decide) (xt_cl0 _ _) (by decide) lkX5_10 rfl dX5_mask_61 ?_
          refine xt_cVNn C mv_X0_keep lkX5_72 (ct_keep hh.1 hh.2.1 hh.2.2.1 hh.2.2.2) rfl (by decide) (xt_cl7 _ _) rfl (by decide) rfl (Nat.le_of_ble_eq_true rfl) dX5_mask_64 ?_
          refine xt_aload_n C dX5_mask_67 rfl ?_
          refine xt_get (f := 0) C xt_u5 rfl (by decide) (xt_cl0 _ _) (by decide) lkX5_10 rfl dX5_mask_68 ?_
          refine xt_aload_n C dX5_mask_71 rfl ?_
          refine xt_get (f := 0) C xt_u5 rfl (by decide) (xt_cl0 _ _) (by decide) lkX5_10 rfl dX5_mask_72 ?_
          refine xt_getN (f := 6) C xt_u1 rfl (by decide) (xt_cl1 _ _) (by decide) lkX5_112 rfl dX5_mask_75 ?_
          refine xt_iload_n C dX5_mask_78 rfl ?_
          refine xt_iload_n C dX5_mask_79 rfl ?_
          refine xt_iload_n C dX5_mask_80 rfl ?_
          refine xt_iload C dX5_mask_81 rfl ?_
          refine xt_iload C dX5_mask_83 rfl ?_
          refine xt_if_eqN (tgt := 92) C dX5_mask_85 (by decide) (by omega) (fun c85 => ?_) (fun c85 => ?_)
          · obtain rfl : m = 0 := by omega
            refine xt_iconst (v := nI 0) C dX5_mask_92 rfl ?_
            refine xt_cVN C mv_X1_paint lkX5_157 (ct_paint (xt_keep_P hP9) (by decide) (xt_cl3 _) hw hh2 hw0 hh0) rfl (by decide) (xt_cl1 _ _) rfl (by decide) rfl (Nat.le_of_ble_eq_true rfl) dX5_mask_93 ?_
            refine xt_pop C dX5_mask_96 rfl ?_
            refine xt_aload_n C dX5_mask_97 rfl ?_
            refine xt_get (f := 0) C xt_u5 rfl (by decide) (xt_cl0 _ _) (by decide) lkX5_10 rfl dX5_mask_98 ?_
            refine xt_aload_n C dX5_mask_101 rfl ?_
            refine xt_get (f := 0) C xt_u5 rfl (by decide) (xt_cl0 _ _) (by decide) lkX5_10 rfl dX5_mask_102 ?_
            refine xt_getN (f := 6) C xt_u1 rfl (by decide) (xt_cl1 _ _) (by decide) lkX5_112 rfl dX5_mask_105 ?_
            refine xt_cVN C mv_X1_total lkX5_116 (ct_sum (by exact xt_keep_P (nx := nx) (kp := kp) hP9) (by decide) (xt_cl3 _)) rfl (by decide) (xt_cl1 _ _) rfl (by decide) rfl (Nat.le_of_ble_eq_true rfl) dX5_mask_108 ?_
            refine xt_ofM ?_
            exact xt_iret C dX5_mask_111 ⟨by decide, by decide⟩ ⟨rfl, rfl⟩
          · obtain rfl : m = 1 := by omega
            refine xt_iconst (v := nI 1) C dX5_mask_88 rfl ?_
            refine xt_goto (tgt := 93) C dX5_mask_89 (by decide) ?_
            refine xt_cVN C mv_X1_paint lkX5_157 (ct_paint (xt_keep_P hP9) (by decide) (xt_cl3 _) hw hh2 hw0 hh0) rfl (by decide) (xt_cl1 _ _) rfl (by decide) rfl (Nat.le_of_ble_eq_true rfl) dX5_mask_93 ?_
            refine xt_pop C dX5_mask_96 rfl ?_
            refine xt_aload_n C dX5_mask_97 rfl ?_
            refine xt_get (f := 0) C xt_u5 rfl (by decide) (xt_cl0 _ _) (by decide) lkX5_10 rfl dX5_mask_98 ?_
            refine xt_aload_n C dX5_mask_101 rfl ?_
            refine xt_get (f := 0) C xt_u5 rfl (by decide) (xt_cl0 _ _) (by decide) lkX5_10 rfl dX5_mask_102 ?_
            refine xt_getN (f := 6) C xt_u1 rfl (by decide) (xt_cl1 _ _) (by decide) lkX5_112 rfl dX5_mask_105 ?_
            refine xt_cVN C mv_X1_total lkX5_116 (ct_sum (by exact xt_keep_P (nx := nx) (kp := kp) hP9) (by decide) (xt_cl3 _)) rfl (by decide) (xt_cl1 _ _) rfl (by decide) rfl (Nat.le_of_ble_eq_true rfl) dX5_mask_108 ?_
            refine xt_ofM ?_
            exact xt_iret C dX5_mask_111 ⟨by decide, by decide⟩ ⟨rfl, rfl⟩
        · exact absurd c43 (by omega)
    · exact absurd ⟨⟨lf + w - 1, by omega, rfl⟩, tp + h - 1, by omega, rfl⟩ c22
set_option maxRecDepth 20000 in
set_option maxHeartbeats 2000000 in
theorem ct_tileOf_ok {QX : String → xt_St → Prop} {c r sd lv bo : Nat} (hP : xt_Pic S 1 c r sd lv bo) {x y : Nat} (hx : x < c) (hy : y < r) : xt_CtX E l yX5_tileOf cX5_tileOf 3 (some Jvm.ClassFile.FieldType.int) 7 110 1 6 [.ref (E.1 0), .int (nI x), .int (nI y)] S (xt_Eq (some (.int (nI (y / sd * xt_ac c sd + x / sd)))) S) QX := by
  refine xt_bodyX (by decide +kernel) (xt_all rfl) (Nat.le_of_ble_eq_true rfl) (fun cx C hl9 hx9 => ?_)
  show xt_X E cx _ 0 0 0 [some (.ref (E.1 0)), some (.int (nI x)), some (.int (nI y))] [] S
  have hP9 := hP
  refine xt_aload_n C dX5_tileOf_0 rfl ?_
  refine xt_get (f := 0) C xt_u5 rfl (by decide) (xt_cl0 _ _) (by decide) lkX5_10 rfl dX5_tileOf_1 ?_
  refine xt_iload_n C dX5_tileOf_4 rfl ?_
  refine xt_iload_n C dX5_tileOf_5 rfl ?_
  refine xt_cVN C mv_X1_has lkX5_131 (ct_has hP9) rfl (by decide) (xt_cl1 _ _) rfl (by decide) rfl (Nat.le_of_ble_eq_true rfl) dX5_tileOf_6 ?_
  refine xt_if_neB (tgt := 22) C dX5_tileOf_9 (by decide) (fun c9 => ?_) (fun c9 => ?_)
  · refine xt_aload_n C dX5_tileOf_22 rfl ?_
    refine xt_get (f := 0) C xt_u5 rfl (by decide) (xt_cl0 _ _) (by decide) lkX5_10 rfl dX5_tileOf_23 ?_
    refine xt_iload_n C dX5_tileOf_26 rfl ?_
    refine xt_iload_n C dX5_tileOf_27 rfl ?_
    refine xt_cVN C mv_X1_tileAt lkX5_161 (ct_tileAt hP9 hx hy) rfl (by decide) (xt_cl1 _ _) rfl (by decide) rfl (Nat.le_of_ble_eq_true rfl) dX5_tileOf_28 ?_
    refine xt_ofM ?_
    exact xt_iret C dX5_tileOf_31 ⟨by decide, by decide⟩ ⟨rfl, rfl⟩
  · exact absurd ⟨⟨x, hx, rfl⟩, y, hy, rfl⟩ c9
set_option maxRecDepth 20000 in
set_option maxHeartbeats 2000000 in
theorem ct_tileOf_bad {Q : Option Value → xt_St → Prop} (hst : l.stackTraces = false) {c r sd lv bo : Nat} (hP : xt_Pic S 1 c r sd lv bo) {x y : Int32} (hb : ¬ xt_pix c r x y) : xt_CtX E l yX5_tileOf cX5_tileOf 3 (some Jvm.ClassFile.FieldType.int) 7 110 1 6 [.ref (E.1 0), .int x, .int y] S Q (xt_Ex "java/lang/IndexOutOfBoundsException" S) := by
  refine xt_bodyX (by decide +kernel) (xt_all rfl) (Nat.le_of_ble_eq_true rfl) (fun cx C hl9 hx9 => ?_)
  show xt_X E cx _ 0 0 0 [some (.ref (E.1 0)), some (.int x), some (.int y)] [] S
  refine xt_aload_n C dX5_tileOf_0 rfl ?_
  refine xt_get (f := 0) C xt_u5 rfl (by decide) (xt_cl0 _ _) (by decide) lkX5_10 rfl dX5_tileOf_1 ?_
  refine xt_iload_n C dX5_tileOf_4 rfl ?_
  refine xt_iload_n C dX5_tileOf_5 rfl ?_
  refine xt_cVN C mv_X1_has lkX5_131 (ct_has hP) rfl (by decide) (xt_cl1 _ _) rfl (by decide) rfl (Nat.le_of_ble_eq_true rfl) dX5_tileOf_6 ?_
  refine xt_if_neB (tgt := 22) C dX5_tileOf_9 (by decide) (fun c9 => ?_) (fun c9 => ?_)
  · exact absurd c9 hb
  · exact xt_throwS (i := 3) C (by rw [hl9]; exact hst) hx9 xw_134 rfl dX5_tileOf_12 dX5_tileOf_15 dX5_tileOf_16 dX5_tileOf_18 dX5_tileOf_21 rfl ⟨by decide, by decide, by decide, by decide⟩ (by decide) ⟨by decide, by decide⟩ ⟨rfl, rfl⟩
end XC26
