/-! THE MODEL: what now holds; where a tile lies -/
section XM1
variable {E : xt_Ev} {l : Launch} {S : xt_St}
/-- now: columns, rows, side, levels, boost; values from 5 on, the mask from 261 on -/
def xt_Mp (S : xt_St) (c r sd lv bo : Nat) : Prop := S.2.1 50 0 = nI c ∧ S.2.1 50 1 = nI r ∧ S.2.1 50 2 = nI sd ∧ S.2.1 50 3 = nI lv ∧ S.2.1 50 4 = nI bo ∧ (2 ≤ c ∧ c ≤ 16 ∧ 2 ≤ r ∧ r ≤ 16 ∧ (sd = 2 ∨ sd = 4 ∨ sd = 8) ∧ lv ≤ 3 ∧ bo ≤ 8)
def xt_mV (S : xt_St) : Nat → Int32 := fun j => S.2.1 50 (5 + j)
def xt_mK (S : xt_St) : Nat → Int32 := fun j => S.2.1 50 (261 + j)
/-- what looking at a tile may change -/
def xt_mfr (S T : xt_St) : Prop := (∀ i f, (i ≠ 49 ∨ (f ≠ 16 ∧ f ≠ 17 ∧ f ≠ 18)) → T.1 i f = S.1 i f) ∧ (∀ i, (i < 57 ∨ 63 < i) → T.2.1 i = S.2.1 i) ∧ (∀ i, i ≠ 64 → i ≠ 65 → T.2.2.1 i = S.2.2.1 i) ∧ T.2.2.2 = S.2.2.2
theorem xt_mfr_rf : xt_mfr S S := ⟨fun _ _ _ => rfl, fun _ _ => rfl, fun _ _ _ => rfl, rfl⟩
theorem xt_mfr_tr {S T U : xt_St} (h : xt_mfr S T) (h2 : xt_mfr T U) : xt_mfr S U := ⟨fun i f hi => (h2.1 i f hi).trans (h.1 i f hi), fun i hi => (h2.2.1 i hi).trans (h.2.1 i hi), fun i a b => (h2.2.2.1 i a b).trans (h.2.2.1 i a b), h2.2.2.2.trans h.2.2.2⟩
theorem xt_mfr_N {S T : xt_St} {f : Nat} {v : Int32} (hf : 16 ≤ f ∧ f ≤ 18) (h : xt_mfr S T) : xt_mfr S (xt_sN T 49 f v) := xt_mfr_tr h ⟨fun i g hi => by
  have h9 : ¬ (i = 49 ∧ g = f) := by omega
  simp [xt_sN, h9], fun _ _ => rfl, fun _ _ _ => rfl, rfl⟩
theorem xt_mfr_A {S T : xt_St} {i : Nat} {g : Nat → Int32} (hi : 57 ≤ i ∧ i ≤ 63) (h : xt_mfr S T) : xt_mfr S (xt_sA T i g) := xt_mfr_tr h ⟨fun _ _ _ => rfl, fun j hj => xt_sA_n (by omega), fun _ _ _ => rfl, rfl⟩
theorem xt_mfr_B {S T : xt_St} {i : Nat} {g : Nat → Int64} (hi : i = 64 ∨ i = 65) (h : xt_mfr S T) : xt_mfr S (xt_sB T i g) := xt_mfr_tr h ⟨fun _ _ _ => rfl, fun _ _ => rfl, fun j h1 h2 => by
  have h9 : ¬ j = i := by omega
  simp [xt_sB, h9], rfl⟩
theorem xt_mfr_Mp {S T : xt_St} {c r sd lv bo : Nat} (h : xt_mfr S T) (hM : xt_Mp S c r sd lv bo) : xt_Mp T c r sd lv bo := by
  unfold xt_Mp at hM ⊢
  rw [h.2.1 50 (by omega)]
  exact hM
theorem xt_mfr_v {S T : xt_St} (h : xt_mfr S T) : xt_mV T = xt_mV S ∧ xt_mK T = xt_mK S := by
  unfold xt_mV xt_mK
  rw [h.2.1 50 (by omega)]
  exact ⟨rfl, rfl⟩
theorem xt_lo1 {n : Nat} : (n + 1) / 2 = xt_lo n 1 := rfl
theorem xt_lo_s {n k : Nat} (h : k ≤ 3) : (xt_lo n k + 1) / 2 = xt_lo n (k + 1) := by
  match k, h with
  | 0, _ => unfold xt_lo; simp only [Nat.reducePow, Nat.reduceAdd]; omega
  | 1, _ => unfold xt_lo; simp only [Nat.reducePow, Nat.reduceAdd]; omega
  | 2, _ => unfold xt_lo; simp only [Nat.reducePow, Nat.reduceAdd]; omega
  | 3, _ => unfold xt_lo; simp only [Nat.reducePow, Nat.reduceAdd]; omega
theorem xt_lo_0 {n : Nat} : xt_lo n 0 = n := by unfold xt_lo; simp
/-- the tile that was taken -/
def xt_Mt (S : xt_St) (lf tp w h dp : Nat) : Prop := S.1 49 16 = nI lf ∧ S.1 49 17 = nI tp ∧ S.1 49 18 = nI dp ∧ (∀ l, l ≤ dp → S.2.1 57 l = nI (xt_lo w l) ∧ S.2.1 58 l = nI (xt_lo h l)) ∧ (1 ≤ w ∧ w ≤ 8 ∧ 1 ≤ h ∧ h ≤ 8 ∧ dp ≤ 3 ∧ lf ≤ 16 ∧ tp ≤ 16)
set_option maxRecDepth 20000 in
set_option maxHeartbeats 2000000 in
theorem ct_mraises {x : Int32} : xt_Ct E l yX6_raises cX6_raises 2 (some Jvm.ClassFile.FieldType.int) 0 0 0 0 [.ref (E.1 49), .int x] S (xt_Eq (some (.int (nI 0))) (xt_sN S 49 0 x)) := by
  refine xt_body (by decide +kernel) (xt_all rfl) (Nat.le_of_ble_eq_true rfl) (fun cx C hl9 => ?_)
  show xt_X E cx _ 0 0 0 [some (.ref (E.1 49)), some (.int x)] [] S
  refine xt_aload_n C dX6_raises_0 rfl ?_
  refine xt_iload_n C dX6_raises_1 rfl ?_
  refine xt_put (f := 0) C xt_u6 rfl (by decide) (xt_cl49 _ _) (by decide) tyX6 tyX6_ok nmX6 lkX6_74 rfl (tyX6_ok 0 (by decide)) rfl rfl (Nat.le_of_ble_eq_true rfl) rfl dX6_raises_2 ?_
  refine xt_iconst (v := nI 0) C dX6_raises_5 rfl ?_
  exact xt_iret C dX6_raises_6 ⟨by decide, by decide⟩ ⟨rfl, rfl⟩
set_option maxRecDepth 20000 in
set_option maxHeartbeats 2000000 in
theorem ct_in {x b1 b2 : Int32} : xt_Ct E l yX6_in cX6_in 3 (some Jvm.ClassFile.FieldType.boolean) 0 0 0 0 [.int x, .int b1, .int b2] S (xt_Eq (some (.int (xt_b (b1 ≤ x ∧ x ≤ b2)))) S) := by
  refine xt_body (by decide +kernel) (xt_all rfl) (Nat.le_of_ble_eq_true rfl) (fun cx C hl9 => ?_)
  show xt_X E cx _ 0 0 0 [some (.int x), some (.int b1), some (.int b2)] [] S
  refine xt_iload_n C dX6_in_0 rfl ?_
  refine xt_iload_n C dX6_in_1 rfl ?_
  refine xt_icmp_lt (tgt := 14) C dX6_in_2 (by decide) (fun c2 => ?_) (fun c2 => ?_)
  · refine xt_iconst (v := nI 0) C dX6_in_14 rfl ?_
    refine xt_zret C dX6_in_15 (by decide) ⟨by decide, by decide⟩ ?_
    first
    | exact xt_q1 ⟨Int32.not_lt.mp c2, Int32.not_lt.mp c7⟩
    | exact xt_q0 (fun h => absurd h.1 (Int32.not_le.mpr c2))
    | exact xt_q0 (fun h => absurd h.2 (Int32.not_le.mpr c7))
  · refine xt_iload_n C dX6_in_5 rfl ?_
    refine xt_iload_n C dX6_in_6 rfl ?_
    refine xt_icmp_gt (tgt := 14) C dX6_in_7 (by decide) (fun c7 => ?_) (fun c7 => ?_)
    · refine xt_iconst (v := nI 0) C dX6_in_14 rfl ?_
      refine xt_zret C dX6_in_15 (by decide) ⟨by decide, by decide⟩ ?_
      first
      | exact xt_q1 ⟨Int32.not_lt.mp c2, Int32.not_lt.mp c7⟩
      | exact xt_q0 (fun h => absurd h.1 (Int32.not_le.mpr c2))
      | exact xt_q0 (fun h => absurd h.2 (Int32.not_le.mpr c7))
    · refine xt_iconst (v := nI 1) C dX6_in_10 rfl ?_
      refine xt_goto (tgt := 15) C dX6_in_11 (by decide) ?_
      refine xt_zret C dX6_in_15 (by decide) ⟨by decide, by decide⟩ ?_
      first
      | exact xt_q1 ⟨Int32.not_lt.mp c2, Int32.not_lt.mp c7⟩
      | exact xt_q0 (fun h => absurd h.1 (Int32.not_le.mpr c2))
      | exact xt_q0 (fun h => absurd h.2 (Int32.not_le.mpr c7))
set_option maxRecDepth 20000 in
set_option maxHeartbeats 2000000 in
theorem ct_mcol {c r sd lv bo : Nat} (hM : xt_Mp S c r sd lv bo) : xt_Ct E l yX6_columns cX6_columns 1 (some Jvm.ClassFile.FieldType.int) 0 0 0 0 [.ref (E.1 49)] S (xt_Eq (some (.int (nI c))) S) := by
  refine xt_body (by decide +kernel) (xt_all rfl) (Nat.le_of_ble_eq_true rfl) (fun cx C hl9 => ?_)
  show xt_X E cx _ 0 0 0 [some (.ref (E.1 49))] [] S
  have hM9 := hM
  obtain ⟨hc, hr, hs, hv, hb, b1, b2, b3, b4, b5, b6, b7⟩ := hM
  refine xt_aload_n C dX6_columns_0 rfl ?_
  refine xt_get (f := 1) C xt_u6 rfl (by decide) (xt_cl49 _ _) (by decide) lkX6_9 rfl dX6_columns_1 ?_
  refine xt_iconst (v := nI 0) C dX6_columns_4 rfl ?_
  refine xt_ialdN C (by decide) (xt_cl50 _) (by decide) (by decide) hc dX6_columns_5 ?_
  exact xt_iret C dX6_columns_6 ⟨by decide, by decide⟩ ⟨rfl, rfl⟩
set_option maxRecDepth 20000 in
set_option maxHeartbeats 2000000 in
theorem ct_mrow {c r sd lv bo : Nat} (hM : xt_Mp S c r sd lv bo) : xt_Ct E l yX6_rows cX6_rows 1 (some Jvm.ClassFile.FieldType.int) 0 0 0 0 [.ref (E.1 49)] S (xt_Eq (some (.int (nI r))) S) := by
  refine xt_body (by decide +kernel) (xt_all rfl) (Nat.le_of_ble_eq_true rfl) (fun cx C hl9 => ?_)
  show xt_X E cx _ 0 0 0 [some (.ref (E.1 49))] [] S
  have hM9 := hM
  obtain ⟨hc, hr, hs, hv, hb, b1, b2, b3, b4, b5, b6, b7⟩ := hM
  refine xt_aload_n C dX6_rows_0 rfl ?_
  refine xt_get (f := 1) C xt_u6 rfl (by decide) (xt_cl49 _ _) (by decide) lkX6_9 rfl dX6_rows_1 ?_
  refine xt_iconst (v := nI 1) C dX6_rows_4 rfl ?_
  refine xt_ialdN C (by decide) (xt_cl50 _) (by decide) (by decide) hr dX6_rows_5 ?_
  exact xt_iret C dX6_rows_6 ⟨by decide, by decide⟩ ⟨rfl, rfl⟩
set_option maxRecDepth 20000 in
set_option maxHeartbeats 2000000 in
theorem ct_isPixel {c r sd lv bo : Nat} (hM : xt_Mp S c r sd lv bo) {x y : Int32} : xt_Ct E l yX6_isPixel cX6_isPixel 3 (some Jvm.ClassFile.FieldType.boolean) 1 22 0 0 [.ref (E.1 49), .int x, .int y] S (xt_Eq (some (.int (xt_b (xt_pix c r x y)))) S) := by
  refine xt_body (by decide +kernel) (xt_all rfl) (Nat.le_of_ble_eq_true rfl) (fun cx C hl9 => ?_)
  show xt_X E cx _ 0 0 0 [some (.ref (E.1 49)), some (.int x), some (.int y)] [] S
  have hM9 := hM
  obtain ⟨hc, hr, hs, hv, hb, b1, b2, b3, b4, b5, b6, b7⟩ := hM
  refine xt_iload_n C dX6_isPixel_0 rfl ?_
  refine xt_iconst (v := nI 0) C dX6_isPixel_1 rfl ?_
  refine xt_aload_n C dX6_isPixel_2 rfl ?_
  refine xt_cV C mv_X6_columns lkX6_77 (ct_mcol (by exact hM9)) rfl (by decide) (xt_cl49 _ _) rfl (by decide) rfl (Nat.le_of_ble_eq_true rfl) dX6_isPixel_3 ?_
  refine xt_iconst (v := nI 1) C dX6_isPixel_6 rfl ?_
  refine xt_isubN C dX6_isPixel_7 (by omega) ?_
  refine xt_cS C ms_X6_in lkX6_81 ct_in rfl (by decide) rfl (Nat.le_of_ble_eq_true rfl) dX6_isPixel_8 ?_
  refine xt_if_eqB (tgt := 32) C dX6_isPixel_11 (by decide) (fun c11 => ?_) (fun c11 => ?_)
  · have hno : ¬ xt_pix c r x y := fun z => c11 ((xt_btw1 (by omega) (by omega)).mpr z.1)
    refine xt_iconst (v := nI 0) C dX6_isPixel_32 rfl ?_
    refine xt_zret C dX6_isPixel_33 (by decide) ⟨by decide, by decide⟩ ?_
    first
    | exact xt_q0 hno
    | exact xt_q1 hyes
  · refine xt_iload_n C dX6_isPixel_14 rfl ?_
    refine xt_iconst (v := nI 0) C dX6_isPixel_15 rfl ?_
    refine xt_aload_n C dX6_isPixel_16 rfl ?_
    refine xt_cV C mv_X6_rows lkX6_85 (ct_mrow (by exact hM9)) rfl (by decide) (xt_cl49 _ _) rfl (by decide) rfl (Nat.le_of_ble_eq_true rfl) dX6_isPixel_17 ?_
    refine xt_iconst (v := nI 1) C dX6_isPixel_20 rfl ?_
    refine xt_isubN C dX6_isPixel_21 (by omega) ?_
    refine xt_cS C ms_X6_in lkX6_81 ct_in rfl (by decide) rfl (Nat.le_of_ble_eq_true rfl) dX6_isPixel_22 ?_
    refine xt_if_eqB (tgt := 32) C dX6_isPixel_25 (by decide) (fun c25 => ?_) (fun c25 => ?_)
    · have hno : ¬ xt_pix c r x y := fun z => c25 ((xt_btw1 (by omega) (by omega)).mpr z.2)
      refine xt_iconst (v := nI 0) C dX6_isPixel_32 rfl ?_
      refine xt_zret C dX6_isPixel_33 (by decide) ⟨by decide, by decide⟩ ?_
      first
      | exact xt_q0 hno
      | exact xt_q1 hyes
    · have hyes : xt_pix c r x y := ⟨(xt_btw1 (by omega) (by omega)).mp c11, (xt_btw1 (by omega) (by omega)).mp c25⟩
      refine xt_iconst (v := nI 1) C dX6_isPixel_28 rfl ?_
      refine xt_goto (tgt := 33) C dX6_isPixel_29 (by decide) ?_
      refine xt_zret C dX6_isPixel_33 (by decide) ⟨by decide, by decide⟩ ?_
      first
      | exact xt_q0 hno
      | exact xt_q1 hyes
set_option maxRecDepth 20000 in
set_option maxHeartbeats 2000000 in
theorem ct_mvalue {c r sd lv bo : Nat} (hM : xt_Mp S c r sd lv bo) {x y : Nat} (hp : y * c + x < 256) : xt_Ct E l yX6_value cX6_value 3 (some Jvm.ClassFile.FieldType.int) 1 20 0 0 [.ref (E.1 49), .int (nI x), .int (nI y)] S (xt_Eq (some (.int (xt_mV S (y * c + x)))) S) := by
  refine xt_body (by decide +kernel) (xt_all rfl) (Nat.le_of_ble_eq_true rfl) (fun cx C hl9 => ?_)
  show xt_X E cx _ 0 0 0 [some (.ref (E.1 49)), some (.int (nI x)), some (.int (nI y))] [] S
  have hM9 := hM
  obtain ⟨hc, hr, hs, hv, hb, b1, b2, b3, b4, b5, b6, b7⟩ := hM
  refine xt_aload_n C dX6_value_0 rfl ?_
  refine xt_get (f := 1) C xt_u6 rfl (by decide) (xt_cl49 _ _) (by decide) lkX6_9 rfl dX6_value_1 ?_
  refine xt_iconst (v := nI 5) C dX6_value_4 rfl ?_
  refine xt_aload_n C dX6_value_5 rfl ?_
  refine xt_cV C mv_X6_columns lkX6_77 (ct_mcol (by exact hM9)) rfl (by decide) (xt_cl49 _ _) rfl (by decide) rfl (Nat.le_of_ble_eq_true rfl) dX6_value_6 ?_
  refine xt_iload_n C dX6_value_9 rfl ?_
  refine xt_imulN C dX6_value_10 ?_
  have hp9 : c * y + x < 256 := by rw [Nat.mul_comm]; exact hp
  refine xt_iaddN C dX6_value_11 ?_
  refine xt_iload_n C dX6_value_12 rfl ?_
  refine xt_iaddN C dX6_value_13 ?_
  refine xt_ialdN C (by decide) (xt_cl50 _) (by omega) (by decide) (show _ = xt_mV S (y * c + x) from by unfold xt_mV; rw [Nat.mul_comm y c, Nat.add_assoc]) dX6_value_14 ?_
  exact xt_iret C dX6_value_15 ⟨by decide, by decide⟩ ⟨rfl, rfl⟩
set_option maxRecDepth 20000 in
set_option maxHeartbeats 2000000 in
theorem ct_macross {c r sd lv bo : Nat} (hM : xt_Mp S c r sd lv bo) : xt_Ct E l yX6_across cX6_across 1 (some Jvm.ClassFile.FieldType.int) 1 20 0 0 [.ref (E.1 49)] S (xt_Eq (some (.int (nI (xt_ac c sd)))) S) := by
  refine xt_body (by decide +kernel) (xt_all rfl) (Nat.le_of_ble_eq_true rfl) (fun cx C hl9 => ?_)
  show xt_X E cx _ 0 0 0 [some (.ref (E.1 49))] [] S
  have hM9 := hM
  obtain ⟨hc, hr, hs, hv, hb, b1, b2, b3, b4, b5, b6, b7⟩ := hM
  refine xt_aload_n C dX6_across_0 rfl ?_
  refine xt_cV C mv_X6_columns lkX6_77 (ct_mcol (by exact hM9)) rfl (by decide) (xt_cl49 _ _) rfl (by decide) rfl (Nat.le_of_ble_eq_true rfl) dX6_across_1 ?_
  refine xt_aload_n C dX6_across_4 rfl ?_
  refine xt_get (f := 1) C xt_u6 rfl (by decide) (xt_cl49 _ _) (by decide) lkX6_9 rfl dX6_across_5 ?_
  refine xt_iconst (v := nI 2) C dX6_across_8 rfl ?_
  refine xt_ialdN C (by decide) (xt_cl50 _) (by decide) (by decide) hs dX6_across_9 ?_
  refine xt_iaddN C dX6_across_10 ?_
  refine xt_iconst (v := nI 1) C dX6_across_11 rfl ?_
  refine xt_isubN C dX6_across_12 (by omega) ?_
  refine xt_aload_n C dX6_across_13 rfl ?_
  refine xt_get (f := 1) C xt_u6 rfl (by decide) (xt_cl49 _ _) (by decide) lkX6_9 rfl dX6_across_14 ?_
  refine xt_iconst (v := nI 2) C dX6_across_17 rfl ?_
  refine xt_ialdN C (by decide) (xt_cl50 _) (by decide) (by decide) hs dX6_across_18 ?_
  refine xt_idivN C dX6_across_19 (by omega) (by omega) (by omega) ?_
  exact xt_iret C dX6_across_20 ⟨by decide, by decide⟩ (xt_qI (by rfl))
set_option maxRecDepth 20000 in
set_option maxHeartbeats 2000000 in
theorem ct_mtiles {c r sd lv bo : Nat} (hM : xt_Mp S c r sd lv bo) : xt_Ct E l yX6_tiles cX6_tiles 1 (some Jvm.ClassFile.FieldType.int) 2 40 0 0 [.ref (E.1 49)] S (xt_Eq (some (.int (nI (xt_nt c r sd)))) S) := by
  refine xt_body (by decide +kernel) (xt_all rfl) (Nat.le_of_ble_eq_true rfl) (fun cx C hl9 => ?_)
  show xt_X E cx _ 0 0 0 [some (.ref (E.1 49))] [] S
  have hM9 := hM
  obtain ⟨hc, hr, hs, hv, hb, b1, b2, b3, b4, b5, b6, b7⟩ := hM
  refine xt_aload_n C dX6_tiles_0 rfl ?_
  refine xt_cV C mv_X6_across lkX6_88 (ct_macross (by exact hM9)) rfl (by decide) (xt_cl49 _ _) rfl (by decide) rfl (Nat.le_of_ble_eq_true rfl) dX6_tiles_1 ?_
  refine xt_aload_n C dX6_tiles_4 rfl ?_
  refine xt_cV C mv_X6_rows lkX6_85 (ct_mrow (by exact hM9)) rfl (by decide) (xt_cl49 _ _) rfl (by decide) rfl (Nat.le_of_ble_eq_true rfl) dX6_tiles_5 ?_
  refine xt_aload_n C dX6_tiles_8 rfl ?_
  refine xt_get (f := 1) C xt_u6 rfl (by decide) (xt_cl49 _ _) (by decide) lkX6_9 rfl dX6_tiles_9 ?_
  refine xt_iconst (v := nI 2) C dX6_tiles_12 rfl ?_
  refine xt_ialdN C (by decide) (xt_cl50 _) (by decide) (by decide) hs dX6_tiles_13 ?_
  refine xt_iaddN C dX6_tiles_14 ?_
  refine xt_iconst (v := nI 1) C dX6_tiles_15 rfl ?_
  refine xt_isubN C dX6_tiles_16 (by omega) ?_
  refine xt_aload_n C dX6_tiles_17 rfl ?_
  refine xt_get (f := 1) C xt_u6 rfl (by decide) (xt_cl49 _ _) (by decide) lkX6_9 rfl dX6_tiles_18 ?_
  refine xt_iconst (v := nI 2) C dX6_tiles_21 rfl ?_
  refine xt_ialdN C (by decide) (xt_cl50 _) (by decide) (by decide) hs dX6_tiles_22 ?_
  refine xt_idivN C dX6_tiles_23 (by omega) (by omega) (by omega) ?_
  refine xt_imulN C dX6_tiles_24 ?_
  exact xt_iret C dX6_tiles_25 ⟨by decide, by decide⟩ (xt_qI (by rfl))
set_option maxRecDepth 20000 in
set_option maxHeartbeats 2000000 in
theorem ct_isTile {c r sd lv bo : Nat} (hM : xt_Mp S c r sd lv bo) {t : Int32} : xt_Ct E l yX6_isTile cX6_isTile 2 (some Jvm.ClassFile.FieldType.boolean) 3 60 0 0 [.ref (E.1 49), .int t] S (xt_Eq (some (.int (xt_b (∃ j, j < xt_nt c r sd ∧ t = nI j)))) S) := by
  refine xt_body (by decide +kernel) (xt_all rfl) (Nat.le_of_ble_eq_true rfl) (fun cx C hl9 => ?_)
  show xt_X E cx _ 0 0 0 [some (.ref (E.1 49)), some (.int t)] [] S
  have hM9 := hM
  obtain ⟨hc, hr, hs, hv, hb, b1, b2, b3, b4, b5, b6, b7⟩ := hM
  have hn9 := xt_nt_b (c := c) (r := r) ⟨b1, b2⟩ ⟨b3, b4⟩ b5
  refine xt_iload_n C dX6_isTile_0 rfl ?_
  refine xt_iconst (v := nI 0) C dX6_isTile_1 rfl ?_
  refine xt_aload_n C dX6_isTile_2 rfl ?_
  refine xt_cV C mv_X6_tiles lkX6_91 (ct_mtiles (by exact hM9)) rfl (by decide) (xt_cl49 _ _) rfl (by decide) rfl (Nat.le_of_ble_eq_true rfl) dX6_isTile_3 ?_
  refine xt_iconst (v := nI 1) C dX6_isTile_6 rfl ?_
  refine xt_isubN C dX6_isTile_7 (by omega) ?_
  refine xt_cS C ms_X6_in lkX6_81 ct_in rfl (by decide) rfl (Nat.le_of_ble_eq_true rfl) dX6_isTile_8 ?_
  exact xt_zret C dX6_isTile_11 (xt_bz _) ⟨by decide, by decide⟩ (xt_qI (xt_bc (xt_btw1 (by omega) (by omega))))
set_option maxRecDepth 20000 in
set_option maxHeartbeats 2000000 in
theorem ct_mplace {x y : Nat} : xt_Ct E l yX6_place cX6_place 3 (some Jvm.ClassFile.FieldType.int) 0 0 0 0 [.ref (E.1 49), .int (nI x), .int (nI y)] S (xt_Eq (some (.int (nI (8 * y + x)))) S) := by
  refine xt_body (by decide +kernel) (xt_all rfl) (Nat.le_of_ble_eq_true rfl) (fun cx C hl9 => ?_)
  show xt_X E cx _ 0 0 0 [some (.ref (E.1 49)), some (.int (nI x)), some (.int (nI y))] [] S
  refine xt_bipush (v := nI 8) C dX6_place_0 (by decide) ?_
  refine xt_iload_n C dX6_place_2 rfl ?_
  refine xt_imulN C dX6_place_3 ?_
  refine xt_iload_n C dX6_place_4 rfl ?_
  refine xt_iaddN C dX6_place_5 ?_
  exact xt_iret C dX6_place_6 ⟨by decide, by decide⟩ ⟨rfl, rfl⟩
set_option maxRecDepth 20000 in
set_option maxHeartbeats 2000000 in
theorem ct_takes {c r sd lv bo : Nat} (hM : xt_Mp S c r sd lv bo) {t : Nat} (ht : t < xt_nt c r sd) : xt_Ct E l yX6_takes cX6_takes 2 none 2 40 0 0 [.ref (E.1 49), .int (nI t)] S (xt_Ep none (fun S9 => xt_mfr S S9 ∧ xt_Mt S9 (xt_gl c sd t) (xt_gt c sd t) (xt_gw c sd t) (xt_gh c r sd t) (xt_tD c r sd lv t))) := by
  refine xt_body (by decide +kernel) (xt_all rfl) (Nat.le_of_ble_eq_true rfl) (fun cx C hl9 => ?_)
  show xt_X E cx _ 0 0 0 [some (.ref (E.1 49)), some (.int (nI t))] [] S
  have hM9 := hM
  obtain ⟨hc, hr, hs, hv, hb, b1, b2, b3, b4, b5, b6, b7⟩ := hM
  have hn := xt_nt_b ⟨b1, b2⟩ ⟨b3, b4⟩ b5
  have hT := xt_tile_b ⟨b1, b2⟩ ⟨b3, b4⟩ b5 ht
  have ha9 := xt_ac_b (c := c) ⟨b1, b2⟩ b5
  have hb9 := xt_ac_b (c := r) ⟨b3, b4⟩ b5
  have loop : ∀ (d j : Nat) (T : xt_St), j ≤ lv → (xt_mfr S T ∧ T.1 49 16 = nI (xt_gl c sd t) ∧ T.1 49 17 = nI (xt_gt c sd t) ∧ T.1 49 18 = nI j ∧ (∀ l, l ≤ j → T.2.1 57 l = nI (xt_lo (xt_gw c sd t) l) ∧ T.2.1 58 l = nI (xt_lo (xt_gh c r sd t) l)) ∧ ∀ k, k < j → (1 < xt_lo (xt_gw c sd t) k ∨ 1 < xt_lo (xt_gh c r sd t) k)) → lv + 1 ≤ j + d → xt_X E cx (xt_ZM E cx 0 0 (xt_Ep none (fun S9 => xt_mfr S S9 ∧ xt_Mt S9 (xt_gl c sd t) (xt_gt c sd t) (xt_gw c sd t) (xt_gh c r sd t) (xt_tD c r sd lv t)))) 0 0 87 [some (.ref (E.1 49)), some (.int (nI t))] [] T := by
    intro d
    induction d with
    | zero => intro j T h0j hi h1j; exact absurd h1j (by omega)
    | succ d ih =>
      intro j T h0j hi h1j
      obtain ⟨i1, i2, i3, i4, i5, i6⟩ := hi
      have w1 := xt_lo_le (n := xt_gw c sd t) (k := j) (by omega)
      have w2 := xt_lo_le (n := xt_gh c r sd t) (k := j) (by omega)
      refine xt_aload_n C dX6_takes_87 rfl ?_
      refine xt_get (f := 18) C xt_u6 rfl (by decide) (xt_cl49 _ _) (by decide) lkX6_109 (xt_vI i4) dX6_takes_88 ?_
      refine xt_aload_n C dX6_takes_91 rfl ?_
      refine xt_get (f := 1) C xt_u6 rfl (by decide) (xt_cl49 _ _) (by decide) lkX6_9 rfl dX6_takes_92 ?_
      refine xt_iconst (v := nI 3) C dX6_takes_95 rfl ?_
      refine xt_ialdN C (by decide) (xt_cl50 _) (by decide) (by decide) (show T.2.1 50 3 = nI lv from by rw [i1.2.1 50 (by omega)]; exact hv) dX6_takes_96 ?_
      refine xt_icmp_geN (tgt := 187) C dX6_takes_97 (by decide) (by omega) (by omega) (fun c97 => ?_) (fun c97 => ?_)
      · refine xt_vret C dX6_takes_187 ⟨by decide, by decide⟩ ?_
        have hD : xt_tD c r sd lv t = j := by
          unfold xt_tD
          first
          | exact xt_dep_at b6 (by omega) i6 (Or.inl (by omega))
          | exact xt_dep_at b6 (by omega) i6 (Or.inr (by omega))
        exact ⟨rfl, i1, i2, i3, by rw [hD]; exact i4, by rw [hD]; exact i5, by omega⟩
      · refine xt_aload_n C dX6_takes_100 rfl ?_
        refine xt_get (f := 19) C xt_u6 rfl (by decide) (xt_cl49 _ _) (by decide) lkX6_38 rfl dX6_takes_101 ?_
        refine xt_aload_n C dX6_takes_104 rfl ?_
        refine xt_get (f := 18) C xt_u6 rfl (by decide) (xt_cl49 _ _) (by decide) lkX6_109 (xt_vI i4) dX6_takes_105 ?_
        refine xt_ialdN C (by decide) (xt_cl57 _) (by omega) (by decide) (i5 j (by omega)).1 dX6_takes_108 ?_
        refine xt_iconst (v := nI 1) C dX6_takes_109 rfl ?_
        refine xt_icmp_gtN (tgt := 126) C dX6_takes_110 (by decide) (by omega) (by omega) (fun c110 => ?_) (fun c110 => ?_)
        · refine xt_aload_n C dX6_takes_126 rfl ?_
          refine xt_get (f := 19) C xt_u6 rfl (by decide) (xt_cl49 _ _) (by decide) lkX6_38 rfl dX6_takes_127 ?_
          refine xt_aload_n C dX6_takes_130 rfl ?_
          refine xt_get (f := 18) C xt_u6 rfl (by decide) (xt_cl49 _ _) (by decide) lkX6_109 (xt_vI i4) dX6_takes_131 ?_
          refine xt_iconst (v := nI 1) C dX6_takes_134 rfl ?_
          refine xt_iaddN C dX6_takes_135 ?_
          refine xt_aload_n C dX6_takes_136 rfl ?_
          refine xt_get (f := 19) C xt_u6 rfl (by decide) (xt_cl49 _ _) (by decide) lkX6_38 rfl dX6_takes_137 ?_
          refine xt_aload_n C dX6_takes_140 rfl ?_
          refine xt_get (f := 18) C xt_u6 rfl (by decide) (xt_cl49 _ _) (by decide) lkX6_109 (xt_vI i4) dX6_takes_141 ?_
          refine xt_ialdN C (by decide) (xt_cl57 _) (by omega) (by decide) (i5 j (by omega)).1 dX6_takes_144 ?_
          refine xt_iconst (v := nI 1) C dX6_takes_145 rfl ?_
          refine xt_iaddN C dX6_takes_146 ?_
          refine xt_iconst (v := nI 2) C dX6_takes_147 rfl ?_
          refine xt_idivN C dX6_takes_148 (by omega) (by omega) (by omega) ?_
          refine xt_iastN C (by decide) (xt_cl57 _) (by omega) (by decide) dX6_takes_149 ?_
          refine xt_aload_n C dX6_takes_150 rfl ?_
          refine xt_get (f := 20) C xt_u6 rfl (by decide) (xt_cl49 _ _) (by decide) lkX6_41 rfl dX6_takes_151 ?_
          refine xt_aload_n C dX6_takes_154 rfl ?_
          refine xt_get (f := 18) C xt_u6 rfl (by decide) (xt_cl49 _ _) (by decide) lkX6_109 (xt_vI i4) dX6_takes_155 ?_
          refine xt_iconst (v := nI 1) C dX6_takes_158 rfl ?_
          refine xt_iaddN C dX6_takes_159 ?_
          refine xt_aload_n C dX6_takes_160 rfl ?_
          refine xt_get (f := 20) C xt_u6 rfl (by decide) (xt_cl49 _ _) (by decide) lkX6_41 rfl dX6_takes_161 ?_
          refine xt_aload_n C dX6_takes_164 rfl ?_
          refine xt_get (f := 18) C xt_u6 rfl (by decide) (xt_cl49 _ _) (by decide) lkX6_109 (xt_vI i4) dX6_takes_165 ?_
          refine xt_ialdN C (by decide) (xt_cl58 _) (by omega) (by decide) (show (xt_sA T 57 (upd (T.2.1 57) (j + 1) (nI ((xt_lo (xt_gw c sd t) j + 1) / 2)))).2.1 58 j = nI (xt_lo (xt_gh c r sd t) j) from by rw [xt_sA_n (by decide)]; exact (i5 j (by omega)).2) dX6_takes_168 ?_
          refine xt_iconst (v := nI 1) C dX6_takes_169 rfl ?_
          refine xt_iaddN C dX6_takes_170 ?_
          refine xt_iconst (v := nI 2) C dX6_takes_171 rfl ?_
          refine xt_idivN C dX6_takes_172 (by omega) (by omega) (by omega) ?_
          refine xt_iastN C (by decide) (xt_cl58 _) (by omega) (by decide) dX6_takes_173 ?_
          refine xt_aload_n C dX6_takes_174 rfl ?_
          refine xt_dup C dX6_takes_175 rfl ?_
          refine xt_get (f := 18) C xt_u6 rfl (by decide) (xt_cl49 _ _) (by decide) lkX6_109 (xt_vI i4) dX6_takes_176 ?_
          refine xt_iconst (v := nI 1) C dX6_takes_179 rfl ?_
          refine xt_iaddN C dX6_takes_180 ?_
          refine xt_put (f := 18) C xt_u6 rfl (by decide) (xt_cl49 _ _) (by decide) tyX6 tyX6_ok nmX6 lkX6_109 rfl (tyX6_ok 18 (by decide)) rfl rfl (Nat.le_of_ble_eq_true rfl) rfl dX6_takes_181 ?_
          refine xt_goto (tgt := 87) C dX6_takes_184 (by decide) ?_
          have l1 := xt_lo_s (n := xt_gw c sd t) (k := j) (by omega)
          have l2 := xt_lo_s (n := xt_gh c r sd t) (k := j) (by omega)
          have e1 : (xt_sA T 57 (upd (T.2.1 57) (j + 1) (nI ((xt_lo (xt_gw c sd t) j + 1) / 2)))).2.1 58 = T.2.1 58 := xt_sA_n (by decide)
          rw [e1]
          exact xt_fg (by repeat' constructor) (ih (j + 1) _ (by omega) ⟨xt_mfr_N (by omega) (xt_mfr_A (by omega) (xt_mfr_A (by omega) i1)), i2, i3, by simp [xt_sN], fun l hl => by
            show (xt_sA (xt_sA T 57 _) 58 _).2.1 57 l = _ ∧ (xt_sA (xt_sA T 57 _) 58 _).2.1 58 l = _
            rw [xt_sA_n (by decide), xt_sA_s, xt_sA_s]
            by_cases e : l = j + 1
            · rw [e, xt_up_s, xt_up_s, l1, l2]; exact ⟨rfl, rfl⟩
            · rw [xt_up_n e, xt_up_n e]; exact i5 l (by omega), fun k hk => by
            by_cases e : k = j
            · rw [e]; first | exact Or.inl c110 | exact Or.inr c123
            · exact i6 k (by omega)⟩ (by omega))
        · refine xt_aload_n C dX6_takes_113 rfl ?_
          refine xt_get (f := 20) C xt_u6 rfl (by decide) (xt_cl49 _ _) (by decide) lkX6_41 rfl dX6_takes_114 ?_
          refine xt_aload_n C dX6_takes_117 rfl ?_
          refine xt_get (f := 18) C xt_u6 rfl (by decide) (xt_cl49 _ _) (by decide) lkX6_109 (xt_vI i4) dX6_takes_118 ?_
          refine xt_ialdN C (by decide) (xt_cl58 _) (by omega) (by decide) (i5 j (by omega)).2 dX6_takes_121 ?_
          refine xt_iconst (v := nI 1) C dX6_takes_122 rfl ?_
          refine xt_icmp_leN (tgt := 187) C dX6_takes_123 (by decide) (by omega) (by omega) (fun c123 => ?_) (fun c123 => ?_)
          · refine xt_vret C dX6_takes_187 ⟨by decide, by decide⟩ ?_
            have hD : xt_tD c r sd lv t = j := by
              unfold xt_tD
              first
              | exact xt_dep_at b6 (by omega) i6 (Or.inl (by omega))
              | exact xt_dep_at b6 (by omega) i6 (Or.inr (by omega))
            exact ⟨rfl, i1, i2, i3, by rw [hD]; exact i4, by rw [hD]; exact i5, by omega⟩
          · refine xt_aload_n C dX6_takes_126 rfl ?_
            refine xt_get (f := 19) C xt_u6 rfl (by decide) (xt_cl49 _ _) (by decide) lkX6_38 rfl dX6_takes_127 ?_
            refine xt_aload_n C dX6_takes_130 rfl ?_
            refine xt_get (f := 18) C xt_u6 rfl (by decide) (xt_cl49 _ _) (by decide) lkX6_109 (xt_vI i4) dX6_takes_131 ?_
            refine xt_iconst (v := nI 1) C dX6_takes_134 rfl ?_
            refine xt_iaddN C dX6_takes_135 ?_
            refine xt_aload_n C dX6_takes_136 rfl ?_
            refine xt_get (f := 19) C xt_u6 rfl (by decide) (xt_cl49 _ _) (by decide) lkX6_38 rfl dX6_takes_137 ?_
            refine xt_aload_n C dX6_takes_140 rfl ?_
            refine xt_get (f := 18) C xt_u6 rfl (by decide) (xt_cl49 _ _) (by decide) lkX6_109 (xt_vI i4) dX6_takes_141 ?_
            refine xt_ialdN C (by decide) (xt_cl57 _) (by omega) (by decide) (i5 j (by omega)).1 dX6_takes_144 ?_
            refine xt_iconst (v := nI 1) C dX6_takes_145 rfl ?_
            refine xt_iaddN C dX6_takes_146 ?_
            refine xt_iconst (v := nI 2) C dX6_takes_147 rfl ?_
            refine xt_idivN C dX6_takes_148 (by omega) (by omega) (by omega) ?_
            refine xt_iastN C (by decide) (xt_cl57 _) (by omega) (by decide) dX6_takes_149 ?_
            refine xt_aload_n C dX6_takes_150 rfl ?_
            refine xt_get (f := 20) C xt_u6 rfl (by decide) (xt_cl49 _ _) (by decide) lkX6_41 rfl dX6_takes_151 ?_
            refine xt_aload_n C dX6_takes_154 rfl ?_
            refine xt_get (f := 18) C xt_u6 rfl (by decide) (xt_cl49 _ _) (by decide) lkX6_109 (xt_vI i4) dX6_takes_155 ?_
            refine xt_iconst (v := nI 1) C dX6_takes_158 rfl ?_
            refine xt_iaddN C dX6_takes_159 ?_
            refine xt_aload_n C dX6_takes_160 rfl ?_
            refine xt_get (f := 20) C xt_u6 rfl (by decide) (xt_cl49 _ _) (by decide) lkX6_41 rfl dX6_takes_161 ?_
            refine xt_aload_n C dX6_takes_164 rfl ?_
            refine xt_get (f := 18) C xt_u6 rfl (by decide) (xt_cl49 _ _) (by decide) lkX6_109 (xt_vI i4) dX6_takes_165 ?_
            refine xt_ialdN C (by decide) (xt_cl58 _) (by omega) (by decide) (show (xt_sA T 57 (upd (T.2.1 57) (j + 1) (nI ((xt_lo (xt_gw c sd t) j + 1) / 2)))).2.1 58 j = nI (xt_lo (xt_gh c r sd t) j) from by rw [xt_sA_n (by decide)]; exact (i5 j (by omega)).2) dX6_takes_168 ?_
            refine xt_iconst (v := nI 1) C dX6_takes_169 rfl ?_
            refine xt_iaddN C dX6_takes_170 ?_
            refine xt_iconst (v := nI 2) C dX6_takes_171 rfl ?_
            refine xt_idivN C dX6_takes_172 (by omega) (by omega) (by omega) ?_
            refine xt_iastN C (by decide) (xt_cl58 _) (by omega) (by decide) dX6_takes_173 ?_
            refine xt_aload_n C dX6_takes_174 rfl ?_
            refine xt_dup C dX6_takes_175 rfl ?_
            refine xt_get (f := 18) C xt_u6 rfl (by decide) (xt_cl49 _ _) (by decide) lkX6_109 (xt_vI i4) dX6_takes_176 ?_
            refine xt_iconst (v := nI 1) C dX6_takes_179 rfl ?_
            refine xt_iaddN C dX6_takes_180 ?_
            refine xt_put (f := 18) C xt_u6 rfl (by decide) (xt_cl49 _ _) (by decide) tyX6 tyX6_ok nmX6 lkX6_109 rfl (tyX6_ok 18 (by decide)) rfl rfl (Nat.le_of_ble_eq_true rfl) rfl dX6_takes_181 ?_
            refine xt_goto (tgt := 87) C dX6_takes_184 (by decide) ?_
            have l1 := xt_lo_s (n := xt_gw c sd t) (k := j) (by omega)
            have l2 := xt_lo_s (n := xt_gh c r sd t) (k := j) (by omega)
            have e1 : (xt_sA T 57 (upd (T.2.1 57) (j + 1) (nI ((xt_lo (xt_gw c sd t) j + 1) / 2)))).2.1 58 = T.2.1 58 := xt_sA_n (by decide)
            rw [e1]
            exact xt_fg (by repeat' constructor) (ih (j + 1) _ (by omega) ⟨xt_mfr_N (by omega) (xt_mfr_A (by omega) (xt_mfr_A (by omega) i1)), i2, i3, by simp [xt_sN], fun l hl => by
              show (xt_sA (xt_sA T 57 _) 58 _).2.1 57 l = _ ∧ (xt_sA (xt_sA T 57 _) 58 _).2.1 58 l = _
              rw [xt_sA_n (by decide), xt_sA_s, xt_sA_s]
              by_cases e : l = j + 1
              · rw [e, xt_up_s, xt_up_s, l1, l2]; exact ⟨rfl, rfl⟩
              · rw [xt_up_n e, xt_up_n e]; exact i5 l (by omega), fun k hk => by
              by_cases e : k = j
              · rw [e]; first | exact Or.inl c110 | exact Or.inr c123
              · exact i6 k (by omega)⟩ (by omega))
  refine xt_aload_n C dX6_takes_0 rfl ?_
  refine xt_iload_n C dX6_takes_1 rfl ?_
  refine xt_aload_n C dX6_takes_2 rfl ?_
  refine xt_cV C mv_X6_across lkX6_88 (ct_macross (by exact hM9)) rfl (by decide) (xt_cl49 _ _) rfl (by decide) rfl (Nat.le_of_ble_eq_true rfl) dX6_takes_3 ?_
  refine xt_iremN C dX6_takes_6 (by omega) (by omega) (by omega) ?_
  refine xt_aload_n C dX6_takes_7 rfl ?_
  refine xt_get (f := 1) C xt_u6 rfl (by decide) (xt_cl49 _ _) (by decide) lkX6_9 rfl dX6_takes_8 ?_
  refine xt_iconst (v := nI 2) C dX6_takes_11 rfl ?_
  refine xt_ialdN C (by decide) (xt_cl50 _) (by decide) (by decide) hs dX6_takes_12 ?_
  refine xt_imulN C dX6_takes_13 ?_
  rw [show t % xt_ac c sd * sd = xt_gl c sd t from rfl]
  refine xt_put (f := 16) C xt_u6 rfl (by decide) (xt_cl49 _ _) (by decide) tyX6 tyX6_ok nmX6 lkX6_97 rfl (tyX6_ok 16 (by decide)) rfl rfl (Nat.le_of_ble_eq_true rfl) rfl dX6_takes_14 ?_
  refine xt_aload_n C dX6_takes_17 rfl ?_
  refine xt_iload_n C dX6_takes_18 rfl ?_
  refine xt_aload_n C dX6_takes_19 rfl ?_
  refine xt_cV C mv_X6_across lkX6_88 (ct_macross (by exact hM9)) rfl (by decide) (xt_cl49 _ _) rfl (by decide) rfl (Nat.le_of_ble_eq_true rfl) dX6_takes_20 ?_
  refine xt_idivN C dX6_takes_23 (by omega) (by omega) (by omega) ?_
  refine xt_aload_n C dX6_takes_24 rfl ?_
  refine xt_get (f := 1) C xt_u6 rfl (by decide) (xt_cl49 _ _) (by decide) lkX6_9 rfl dX6_takes_25 ?_
  refine xt_iconst (v := nI 2) C dX6_takes_28 rfl ?_
  refine xt_ialdN C (by decide) (xt_cl50 _) (by decide) (by decide) hs dX6_takes_29 ?_
  refine xt_imulN C dX6_takes_30 ?_
  rw [show t / xt_ac c sd * sd = xt_gt c sd t from rfl]
  refine xt_put (f := 17) C xt_u6 rfl (by decide) (xt_cl49 _ _) (by decide) tyX6 tyX6_ok nmX6 lkX6_100 rfl (tyX6_ok 17 (by decide)) rfl rfl (Nat.le_of_ble_eq_true rfl) rfl dX6_takes_31 ?_
  refine xt_aload_n C dX6_takes_34 rfl ?_
  refine xt_get (f := 19) C xt_u6 rfl (by decide) (xt_cl49 _ _) (by decide) lkX6_38 rfl dX6_takes_35 ?_
  refine xt_iconst (v := nI 0) C dX6_takes_38 rfl ?_
  refine xt_aload_n C dX6_takes_39 rfl ?_
  refine xt_get (f := 1) C xt_u6 rfl (by decide) (xt_cl49 _ _) (by decide) lkX6_9 rfl dX6_takes_40 ?_
  refine xt_iconst (v := nI 2) C dX6_takes_43 rfl ?_
  refine xt_ialdN C (by decide) (xt_cl50 _) (by decide) (by decide) hs dX6_takes_44 ?_
  refine xt_aload_n C dX6_takes_45 rfl ?_
  refine xt_cV C mv_X6_columns lkX6_77 (ct_mcol (by exact hM9)) rfl (by decide) (xt_cl49 _ _) rfl (by decide) rfl (Nat.le_of_ble_eq_true rfl) dX6_takes_46 ?_
  refine xt_aload_n C dX6_takes_49 rfl ?_
  refine xt_get (f := 16) C xt_u6 rfl (by decide) (xt_cl49 _ _) (by decide) lkX6_97 rfl dX6_takes_50 ?_
  rw [show (xt_sN (xt_sN S 49 16 (nI (xt_gl c sd t))) 49 17 (nI (xt_gt c sd t))).1 49 16 = nI (xt_gl c sd t) from by simp [xt_sN]]
  refine xt_isubN C dX6_takes_53 (by omega) ?_
  refine xt_mmin C lkX6_103 mw_min rfl ⟨by decide, Nat.le_of_ble_eq_true rfl, by decide, by decide⟩ dX6_takes_54 ?_
  rw [xt_min (by omega) (by omega), show min sd (c - xt_gl c sd t) = xt_gw c sd t from rfl]
  refine xt_iastN C (by decide) (xt_cl57 _) (by omega) (by decide) dX6_takes_57 ?_
  refine xt_aload_n C dX6_takes_58 rfl ?_
  refine xt_get (f := 20) C xt_u6 rfl (by decide) (xt_cl49 _ _) (by decide) lkX6_41 rfl dX6_takes_59 ?_
  refine xt_iconst (v := nI 0) C dX6_takes_62 rfl ?_
  refine xt_aload_n C dX6_takes_63 rfl ?_
  refine xt_get (f := 1) C xt_u6 rfl (by decide) (xt_cl49 _ _) (by decide) lkX6_9 rfl dX6_takes_64 ?_
  refine xt_iconst (v := nI 2) C dX6_takes_67 rfl ?_
  refine xt_ialdN C (by decide) (xt_cl50 _) (by decide) (by decide) hs dX6_takes_68 ?_
  refine xt_aload_n C dX6_takes_69 rfl ?_
  refine xt_cV C mv_X6_rows lkX6_85 (ct_mrow (by exact hM9)) rfl (by decide) (xt_cl49 _ _) rfl (by decide) rfl (Nat.le_of_ble_eq_true rfl) dX6_takes_70 ?_
  refine xt_aload_n C dX6_takes_73 rfl ?_
  refine xt_get (f := 17) C xt_u6 rfl (by decide) (xt_cl49 _ _) (by decide) lkX6_100 rfl dX6_takes_74 ?_
  rw [show ∀ g9, (xt_sA (xt_sN (xt_sN S 49 16 (nI (xt_gl c sd t))) 49 17 (nI (xt_gt c sd t))) 57 g9).1 49 17 = nI (xt_gt c sd t) from fun g9 => by simp [xt_sN, xt_sA]]
  refine xt_isubN C dX6_takes_77 (by omega) ?_
  refine xt_mmin C lkX6_103 mw_min rfl ⟨by decide, Nat.le_of_ble_eq_true rfl, by decide, by decide⟩ dX6_takes_78 ?_
  rw [xt_min (by omega) (by omega), show min sd (r - xt_gt c sd t) = xt_gh c r sd t from rfl]
  refine xt_iastN C (by decide) (xt_cl58 _) (by omega) (by decide) dX6_takes_81 ?_
  refine xt_aload_n C dX6_takes_82 rfl ?_
  refine xt_iconst (v := nI 0) C dX6_takes_83 rfl ?_
  refine xt_put (f := 18) C xt_u6 rfl (by decide) (xt_cl49 _ _) (by decide) tyX6 tyX6_ok nmX6 lkX6_109 rfl (tyX6_ok 18 (by decide)) rfl rfl (Nat.le_of_ble_eq_true rfl) rfl dX6_takes_84 ?_
  refine loop (lv + 1) 0 _ (by omega) ⟨xt_mfr_N (by omega) (xt_mfr_A (by omega) (xt_mfr_A (by omega) (xt_mfr_N (by omega) (xt_mfr_N (by omega) xt_mfr_rf)))), by simp [xt_sN, xt_sA], by simp [xt_sN, xt_sA], by simp [xt_sN], fun l hl => ?_, fun k hk => absurd hk (Nat.not_lt_zero _)⟩ (by omega)
  obtain rfl : l = 0 := by omega
  rw [xt_lo_0, xt_lo_0]
  show (xt_sA (xt_sA _ 57 _) 58 _).2.1 57 0 = _ ∧ (xt_sA (xt_sA _ 57 _) 58 _).2.1 58 0 = _
  rw [xt_sA_n (by decide), xt_sA_s, xt_sA_s, xt_up_s, xt_up_s]
  exact ⟨rfl, rfl⟩
end XM1
