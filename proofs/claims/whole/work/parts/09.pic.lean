/-! THE PICTURE -/
section XC2
variable {E : xt_Ev} {l : Launch} {S : xt_St}
/-- so many steps, one behind another -/
def xt_it {α : Type} (f : Nat → α → α) : Nat → α → α
  | 0, a => a
  | n + 1, a => f n (xt_it f n a)
def xt_ac (c sd : Nat) : Nat := (c + sd - 1) / sd
def xt_nt (c r sd : Nat) : Nat := xt_ac c sd * xt_ac r sd
def xt_gl (c sd t : Nat) : Nat := t % xt_ac c sd * sd
def xt_gt (c sd t : Nat) : Nat := t / xt_ac c sd * sd
def xt_gw (c sd t : Nat) : Nat := min sd (c - xt_gl c sd t)
def xt_gh (c r sd t : Nat) : Nat := min sd (r - xt_gt c sd t)
theorem xt_ac_b {c sd : Nat} (hc : 2 ≤ c ∧ c ≤ 16) (hs : sd = 2 ∨ sd = 4 ∨ sd = 8) : 1 ≤ xt_ac c sd ∧ xt_ac c sd ≤ 8 ∧ (xt_ac c sd - 1) * sd < c ∧ c ≤ xt_ac c sd * sd := by
  unfold xt_ac
  rcases hs with rfl | rfl | rfl <;> omega
theorem xt_nt_b {c r sd : Nat} (hc : 2 ≤ c ∧ c ≤ 16) (hr : 2 ≤ r ∧ r ≤ 16) (hs : sd = 2 ∨ sd = 4 ∨ sd = 8) : 1 ≤ xt_nt c r sd ∧ xt_nt c r sd ≤ 64 := by
  obtain ⟨a1, a2, -⟩ := xt_ac_b hc hs
  obtain ⟨b1, b2, -⟩ := xt_ac_b hr hs
  exact ⟨Nat.mul_le_mul a1 b1, Nat.mul_le_mul a2 b2⟩
/-- a tile that there is -/
theorem xt_tile_b {c r sd t : Nat} (hc : 2 ≤ c ∧ c ≤ 16) (hr : 2 ≤ r ∧ r ≤ 16) (hs : sd = 2 ∨ sd = 4 ∨ sd = 8) (ht : t < xt_nt c r sd) :
    xt_gl c sd t < c ∧ xt_gt c sd t < r ∧ 1 ≤ xt_gw c sd t ∧ xt_gw c sd t ≤ 8 ∧ 1 ≤ xt_gh c r sd t ∧ xt_gh c r sd t ≤ 8 ∧ xt_gl c sd t + xt_gw c sd t ≤ c ∧ xt_gt c sd t + xt_gh c r sd t ≤ r := by
  obtain ⟨a1, a2, a3, a4⟩ := xt_ac_b hc hs
  obtain ⟨b1, b2, b3, b4⟩ := xt_ac_b hr hs
  have h1 : t % xt_ac c sd < xt_ac c sd := Nat.mod_lt _ a1
  have h2 : t / xt_ac c sd < xt_ac r sd := Nat.div_lt_of_lt_mul ht
  have h3 : xt_gl c sd t < c := Nat.lt_of_le_of_lt (Nat.mul_le_mul_right sd (Nat.le_sub_one_of_lt h1)) a3
  have h4 : xt_gt c sd t < r := Nat.lt_of_le_of_lt (Nat.mul_le_mul_right sd (Nat.le_sub_one_of_lt h2)) b3
  unfold xt_gw xt_gh
  refine ⟨h3, h4, ?_, ?_, ?_, ?_, ?_, ?_⟩ <;> rcases hs with rfl | rfl | rfl <;> omega
theorem xt_ix {c r x y : Nat} (hx : x < c) (hy : y < r) (hc : c ≤ 16) (hr : r ≤ 16) : y * c + x < 256 ∧ y * c + x < c * r := by
  have h1 : y * c + x < r * c := by
    have h2 : (y + 1) * c ≤ r * c := Nat.mul_le_mul_right c hy
    rw [Nat.add_mul] at h2
    omega
  have h3 : r * c ≤ 256 := Nat.mul_le_mul hr hc
  rw [Nat.mul_comm c r]
  omega
theorem xt_min {a b : Nat} (ha : a < 2 ^ 31) (hb : b < 2 ^ 31) : (if nI b < nI a then nI b else nI a) = nI (min a b) := by
  by_cases h : b < a
  · rw [if_pos ((nI_ltI hb ha).mpr h), Nat.min_eq_right (Nat.le_of_lt h)]
  · rw [if_neg (fun z => h ((nI_ltI hb ha).mp z)), Nat.min_eq_left (Nat.le_of_not_lt h)]
theorem xt_max {a b : Nat} (ha : a < 2 ^ 31) (hb : b < 2 ^ 31) : (if nI a < nI b then nI b else nI a) = nI (max a b) := by
  by_cases h : a < b
  · rw [if_pos ((nI_ltI ha hb).mpr h), Nat.max_eq_right (Nat.le_of_lt h)]
  · rw [if_neg (fun z => h ((nI_ltI ha hb).mp z)), Nat.max_eq_left (Nat.le_of_not_lt h)]
set_option maxRecDepth 20000 in
set_option maxHeartbeats 2000000 in
theorem ct_across {c r sd lv bo : Nat} (hP : xt_Pic S 1 c r sd lv bo) : xt_Ct E l yX1_tilesAcross cX1_tilesAcross 1 (some Jvm.ClassFile.FieldType.int) 1 21 0 0 [.ref (E.1 1)] S (xt_Eq (some (.int (nI (xt_ac c sd)))) S) := by
  refine xt_body (by decide +kernel) (xt_all rfl) (Nat.le_of_ble_eq_true rfl) (fun cx C hl9 => ?_)
  show xt_X E cx _ 0 0 0 [some (.ref (E.1 1))] [] S
  have hP9 := hP
  obtain ⟨hc, hr, hs, hv, hb, b1, b2, b3, b4, b5, b6, b7⟩ := hP
  refine xt_aload_n C dX1_tilesAcross_0 rfl ?_
  refine xt_get (f := 0) C xt_u1 rfl (by decide) (xt_cl1 _ _) (by decide) lkX1_9 (xt_vI hc) dX1_tilesAcross_1 ?_
  refine xt_aload_n C dX1_tilesAcross_4 rfl ?_
  refine xt_get (f := 2) C xt_u1 rfl (by decide) (xt_cl1 _ _) (by decide) lkX1_18 (xt_vI hs) dX1_tilesAcross_5 ?_
  refine xt_iaddN C dX1_tilesAcross_8 ?_
  refine xt_iconst (v := nI 1) C dX1_tilesAcross_9 rfl ?_
  refine xt_isubN C dX1_tilesAcross_10 (by omega) ?_
  refine xt_aload_n C dX1_tilesAcross_11 rfl ?_
  refine xt_get (f := 2) C xt_u1 rfl (by decide) (xt_cl1 _ _) (by decide) lkX1_18 (xt_vI hs) dX1_tilesAcross_12 ?_
  refine xt_cSN C ms_X5_quotient lkX1_50 (ct_quot (by omega) (by omega) (by omega)) rfl (by decide) rfl (Nat.le_of_ble_eq_true rfl) dX1_tilesAcross_15 ?_
  exact xt_iret C dX1_tilesAcross_18 ⟨by decide, by decide⟩ ⟨rfl, rfl⟩
set_option maxRecDepth 20000 in
set_option maxHeartbeats 2000000 in
theorem ct_total {c r sd lv bo : Nat} (hP : xt_Pic S 1 c r sd lv bo) : xt_Ct E l yX1_tileTotal cX1_tileTotal 1 (some Jvm.ClassFile.FieldType.int) 2 41 0 0 [.ref (E.1 1)] S (xt_Eq (some (.int (nI (xt_nt c r sd)))) S) := by
  refine xt_body (by decide +kernel) (xt_all rfl) (Nat.le_of_ble_eq_true rfl) (fun cx C hl9 => ?_)
  show xt_X E cx _ 0 0 0 [some (.ref (E.1 1))] [] S
  have hP9 := hP
  obtain ⟨hc, hr, hs, hv, hb, b1, b2, b3, b4, b5, b6, b7⟩ := hP
  refine xt_aload_n C dX1_tileTotal_0 rfl ?_
  refine xt_cV C mv_X1_tilesAcross lkX1_53 (ct_across (by exact hP9)) rfl (by decide) (xt_cl1 _ _) rfl (by decide) rfl (Nat.le_of_ble_eq_true rfl) dX1_tileTotal_1 ?_
  refine xt_aload_n C dX1_tileTotal_4 rfl ?_
  refine xt_get (f := 1) C xt_u1 rfl (by decide) (xt_cl1 _ _) (by decide) lkX1_15 (xt_vI hr) dX1_tileTotal_5 ?_
  refine xt_aload_n C dX1_tileTotal_8 rfl ?_
  refine xt_get (f := 2) C xt_u1 rfl (by decide) (xt_cl1 _ _) (by decide) lkX1_18 (xt_vI hs) dX1_tileTotal_9 ?_
  refine xt_iaddN C dX1_tileTotal_12 ?_
  refine xt_iconst (v := nI 1) C dX1_tileTotal_13 rfl ?_
  refine xt_isubN C dX1_tileTotal_14 (by omega) ?_
  refine xt_aload_n C dX1_tileTotal_15 rfl ?_
  refine xt_get (f := 2) C xt_u1 rfl (by decide) (xt_cl1 _ _) (by decide) lkX1_18 (xt_vI hs) dX1_tileTotal_16 ?_
  refine xt_cSN C ms_X5_quotient lkX1_50 (ct_quot (by omega) (by omega) (by omega)) rfl (by decide) rfl (Nat.le_of_ble_eq_true rfl) dX1_tileTotal_19 ?_
  refine xt_imulN C dX1_tileTotal_22 ?_
  exact xt_iret C dX1_tileTotal_23 ⟨by decide, by decide⟩ ⟨rfl, rfl⟩
set_option maxRecDepth 20000 in
set_option maxHeartbeats 2000000 in
theorem ct_hasTile {c r sd lv bo : Nat} (hP : xt_Pic S 1 c r sd lv bo) {t : Int32} : xt_Ct E l yX1_hasTile cX1_hasTile 2 (some Jvm.ClassFile.FieldType.boolean) 3 61 0 0 [.ref (E.1 1), .int t] S (xt_Eq (some (.int (xt_b (∃ j, j < xt_nt c r sd ∧ t = nI j)))) S) := by
  refine xt_body (by decide +kernel) (xt_all rfl) (Nat.le_of_ble_eq_true rfl) (fun cx C hl9 => ?_)
  show xt_X E cx _ 0 0 0 [some (.ref (E.1 1)), some (.int t)] [] S
  have hP9 := hP
  obtain ⟨hc, hr, hs, hv, hb, b1, b2, b3, b4, b5, b6, b7⟩ := hP
  have hn := xt_nt_b ⟨b1, b2⟩ ⟨b3, b4⟩ b5
  refine xt_iload_n C dX1_hasTile_0 rfl ?_
  refine xt_iconst (v := nI 0) C dX1_hasTile_1 rfl ?_
  refine xt_aload_n C dX1_hasTile_2 rfl ?_
  refine xt_cV C mv_X1_tileTotal lkX1_57 (ct_total (by exact hP9)) rfl (by decide) (xt_cl1 _ _) rfl (by decide) rfl (Nat.le_of_ble_eq_true rfl) dX1_hasTile_3 ?_
  refine xt_iconst (v := nI 1) C dX1_hasTile_6 rfl ?_
  refine xt_isubN C dX1_hasTile_7 (by omega) ?_
  refine xt_cSN C ms_X5_isBetween lkX1_42 ct_between rfl (by decide) rfl (Nat.le_of_ble_eq_true rfl) dX1_hasTile_8 ?_
  exact xt_zret C dX1_hasTile_11 (xt_bz _) ⟨by decide, by decide⟩ ⟨by rw [xt_bc (xt_btw1 (by omega) (by omega))], rfl⟩
set_option maxRecDepth 20000 in
set_option maxHeartbeats 2000000 in
theorem ct_tileAt {c r sd lv bo : Nat} (hP : xt_Pic S 1 c r sd lv bo) {x y : Nat} (hx : x < c) (hy : y < r) : xt_Ct E l yX1_tileAt cX1_tileAt 3 (some Jvm.ClassFile.FieldType.int) 2 41 0 0 [.ref (E.1 1), .int (nI x), .int (nI y)] S (xt_Eq (some (.int (nI (y / sd * xt_ac c sd + x / sd)))) S) := by
  refine xt_body (by decide +kernel) (xt_all rfl) (Nat.le_of_ble_eq_true rfl) (fun cx C hl9 => ?_)
  show xt_X E cx _ 0 0 0 [some (.ref (E.1 1)), some (.int (nI x)), some (.int (nI y))] [] S
  have hP9 := hP
  obtain ⟨hc, hr, hs, hv, hb, b1, b2, b3, b4, b5, b6, b7⟩ := hP
  refine xt_iload_n C dX1_tileAt_0 rfl ?_
  refine xt_aload_n C dX1_tileAt_1 rfl ?_
  refine xt_get (f := 2) C xt_u1 rfl (by decide) (xt_cl1 _ _) (by decide) lkX1_18 (xt_vI hs) dX1_tileAt_2 ?_
  refine xt_cSN C ms_X5_quotient lkX1_50 (ct_quot (by omega) (by omega) (by omega)) rfl (by decide) rfl (Nat.le_of_ble_eq_true rfl) dX1_tileAt_5 ?_
  refine xt_aload_n C dX1_tileAt_8 rfl ?_
  refine xt_cV C mv_X1_tilesAcross lkX1_53 (ct_across (by exact hP9)) rfl (by decide) (xt_cl1 _ _) rfl (by decide) rfl (Nat.le_of_ble_eq_true rfl) dX1_tileAt_9 ?_
  refine xt_imulN C dX1_tileAt_12 ?_
  refine xt_iload_n C dX1_tileAt_13 rfl ?_
  refine xt_aload_n C dX1_tileAt_14 rfl ?_
  refine xt_get (f := 2) C xt_u1 rfl (by decide) (xt_cl1 _ _) (by decide) lkX1_18 (xt_vI hs) dX1_tileAt_15 ?_
  refine xt_cSN C ms_X5_quotient lkX1_50 (ct_quot (by omega) (by omega) (by omega)) rfl (by decide) rfl (Nat.le_of_ble_eq_true rfl) dX1_tileAt_18 ?_
  refine xt_iaddN C dX1_tileAt_21 ?_
  exact xt_iret C dX1_tileAt_22 ⟨by decide, by decide⟩ ⟨rfl, rfl⟩
set_option maxRecDepth 20000 in
set_option maxHeartbeats 2000000 in
theorem ct_leftOf {c r sd lv bo : Nat} (hP : xt_Pic S 1 c r sd lv bo) {t : Nat} (ht : t < xt_nt c r sd) : xt_Ct E l yX1_leftOf cX1_leftOf 3 (some Jvm.ClassFile.FieldType.int) 2 41 0 0 [.ref (E.1 1), .int (nI t)] S (xt_Eq (some (.int (nI (xt_gl c sd t)))) S) := by
  refine xt_body (by decide +kernel) (xt_all rfl) (Nat.le_of_ble_eq_true rfl) (fun cx C hl9 => ?_)
  show xt_X E cx _ 0 0 0 [some (.ref (E.1 1)), some (.int (nI t)), none] [] S
  have hP9 := hP
  obtain ⟨hc, hr, hs, hv, hb, b1, b2, b3, b4, b5, b6, b7⟩ := hP
  have hn := xt_nt_b ⟨b1, b2⟩ ⟨b3, b4⟩ b5
  have hT := xt_tile_b ⟨b1, b2⟩ ⟨b3, b4⟩ b5 ht
  have ha := xt_ac_b (c := c) ⟨b1, b2⟩ b5
  have hb9 := xt_ac_b (c := r) ⟨b3, b4⟩ b5
  refine xt_aload_n C dX1_leftOf_0 rfl ?_
  refine xt_cV C mv_X1_tilesAcross lkX1_53 (ct_across (by exact hP9)) rfl (by decide) (xt_cl1 _ _) rfl (by decide) rfl (Nat.le_of_ble_eq_true rfl) dX1_leftOf_1 ?_
  refine xt_istore_n (lo' := [_, _, _]) C dX1_leftOf_4 (Nat.le_of_ble_eq_true rfl) rfl rfl ?_
  refine xt_iload_n C dX1_leftOf_5 rfl ?_
  refine xt_iload_n C dX1_leftOf_6 rfl ?_
  refine xt_iload_n C dX1_leftOf_7 rfl ?_
  refine xt_cSN C ms_X5_quotient lkX1_50 (ct_quot (by omega) (by omega) (by omega)) rfl (by decide) rfl (Nat.le_of_ble_eq_true rfl) dX1_leftOf_8 ?_
  refine xt_iload_n C dX1_leftOf_11 rfl ?_
  refine xt_imulN C dX1_leftOf_12 ?_
  refine xt_isubN C dX1_leftOf_13 (Nat.div_mul_le_self _ _) ?_
  refine xt_aload_n C dX1_leftOf_14 rfl ?_
  refine xt_get (f := 2) C xt_u1 rfl (by decide) (xt_cl1 _ _) (by decide) lkX1_18 (xt_vI hs) dX1_leftOf_15 ?_
  refine xt_imulN C dX1_leftOf_18 ?_
  exact xt_iret C dX1_leftOf_19 ⟨by decide, by decide⟩ (xt_qI (by rw [show t - t / xt_ac c sd * xt_ac c sd = t % xt_ac c sd by have h9 := Nat.mod_add_div t (xt_ac c sd); rw [Nat.mul_comm] at h9; omega]; rfl))
set_option maxRecDepth 20000 in
set_option maxHeartbeats 2000000 in
theorem ct_topOf {c r sd lv bo : Nat} (hP : xt_Pic S 1 c r sd lv bo) {t : Nat} (ht : t < xt_nt c r sd) : xt_Ct E l yX1_topOf cX1_topOf 2 (some Jvm.ClassFile.FieldType.int) 2 41 0 0 [.ref (E.1 1), .int (nI t)] S (xt_Eq (some (.int (nI (xt_gt c sd t)))) S) := by
  refine xt_body (by decide +kernel) (xt_all rfl) (Nat.le_of_ble_eq_true rfl) (fun cx C hl9 => ?_)
  show xt_X E cx _ 0 0 0 [some (.ref (E.1 1)), some (.int (nI t))] [] S
  have hP9 := hP
  obtain ⟨hc, hr, hs, hv, hb, b1, b2, b3, b4, b5, b6, b7⟩ := hP
  have hn := xt_nt_b ⟨b1, b2⟩ ⟨b3, b4⟩ b5
  have hT := xt_tile_b ⟨b1, b2⟩ ⟨b3, b4⟩ b5 ht
  have ha := xt_ac_b (c := c) ⟨b1, b2⟩ b5
  have hb9 := xt_ac_b (c := r) ⟨b3, b4⟩ b5
  refine xt_iload_n C dX1_topOf_0 rfl ?_
  refine xt_aload_n C dX1_topOf_1 rfl ?_
  refine xt_cV C mv_X1_tilesAcross lkX1_53 (ct_across (by exact hP9)) rfl (by decide) (xt_cl1 _ _) rfl (by decide) rfl (Nat.le_of_ble_eq_true rfl) dX1_topOf_2 ?_
  refine xt_cSN C ms_X5_quotient lkX1_50 (ct_quot (by omega) (by omega) (by omega)) rfl (by decide) rfl (Nat.le_of_ble_eq_true rfl) dX1_topOf_5 ?_
  refine xt_aload_n C dX1_topOf_8 rfl ?_
  refine xt_get (f := 2) C xt_u1 rfl (by decide) (xt_cl1 _ _) (by decide) lkX1_18 (xt_vI hs) dX1_topOf_9 ?_
  refine xt_imulN C dX1_topOf_12 ?_
  exact xt_iret C dX1_topOf_13 ⟨by decide, by decide⟩ ⟨rfl, rfl⟩
set_option maxRecDepth 20000 in
set_option maxHeartbeats 2000000 in
theorem ct_widthOf {c r sd lv bo : Nat} (hP : xt_Pic S 1 c r sd lv bo) {t : Nat} (ht : t < xt_nt c r sd) : xt_Ct E l yX1_widthOf cX1_widthOf 2 (some Jvm.ClassFile.FieldType.int) 3 63 0 0 [.ref (E.1 1), .int (nI t)] S (xt_Eq (some (.int (nI (xt_gw c sd t)))) S) := by
  refine xt_body (by decide +kernel) (xt_all rfl) (Nat.le_of_ble_eq_true rfl) (fun cx C hl9 => ?_)
  show xt_X E cx _ 0 0 0 [some (.ref (E.1 1)), some (.int (nI t))] [] S
  have hP9 := hP
  obtain ⟨hc, hr, hs, hv, hb, b1, b2, b3, b4, b5, b6, b7⟩ := hP
  have hn := xt_nt_b ⟨b1, b2⟩ ⟨b3, b4⟩ b5
  have hT := xt_tile_b ⟨b1, b2⟩ ⟨b3, b4⟩ b5 ht
  have ha := xt_ac_b (c := c) ⟨b1, b2⟩ b5
  have hb9 := xt_ac_b (c := r) ⟨b3, b4⟩ b5
  refine xt_aload_n C dX1_widthOf_0 rfl ?_
  refine xt_get (f := 2) C xt_u1 rfl (by decide) (xt_cl1 _ _) (by decide) lkX1_18 (xt_vI hs) dX1_widthOf_1 ?_
  refine xt_aload_n C dX1_widthOf_4 rfl ?_
  refine xt_get (f := 0) C xt_u1 rfl (by decide) (xt_cl1 _ _) (by decide) lkX1_9 (xt_vI hc) dX1_widthOf_5 ?_
  refine xt_aload_n C dX1_widthOf_8 rfl ?_
  refine xt_iload_n C dX1_widthOf_9 rfl ?_
  refine xt_cV C mv_X1_leftOf lkX1_60 (ct_leftOf (by exact hP9) ht) rfl (by decide) (xt_cl1 _ _) rfl (by decide) rfl (Nat.le_of_ble_eq_true rfl) dX1_widthOf_10 ?_
  refine xt_isubN C dX1_widthOf_13 (by omega) ?_
  refine xt_mmin C lkX1_64 mw_min rfl (by decide) dX1_widthOf_14 ?_
  exact xt_iret C dX1_widthOf_17 ⟨by decide, by decide⟩ (xt_qI (xt_min (by omega) (by omega)))
set_option maxRecDepth 20000 in
set_option maxHeartbeats 2000000 in
theorem ct_heightOf {c r sd lv bo : Nat} (hP : xt_Pic S 1 c r sd lv bo) {t : Nat} (ht : t < xt_nt c r sd) : xt_Ct E l yX1_heightOf cX1_heightOf 2 (some Jvm.ClassFile.FieldType.int) 3 62 0 0 [.ref (E.1 1), .int (nI t)] S (xt_Eq (some (.int (nI (xt_gh c r sd t)))) S) := by
  refine xt_body (by decide +kernel) (xt_all rfl) (Nat.le_of_ble_eq_true rfl) (fun cx C hl9 => ?_)
  show xt_X E cx _ 0 0 0 [some (.ref (E.1 1)), some (.int (nI t))] [] S
  have hP9 := hP
  obtain ⟨hc, hr, hs, hv, hb, b1, b2, b3, b4, b5, b6, b7⟩ := hP
  have hn := xt_nt_b ⟨b1, b2⟩ ⟨b3, b4⟩ b5
  have hT := xt_tile_b ⟨b1, b2⟩ ⟨b3, b4⟩ b5 ht
  have ha := xt_ac_b (c := c) ⟨b1, b2⟩ b5
  have hb9 := xt_ac_b (c := r) ⟨b3, b4⟩ b5
  refine xt_aload_n C dX1_heightOf_0 rfl ?_
  refine xt_get (f := 2) C xt_u1 rfl (by decide) (xt_cl1 _ _) (by decide) lkX1_18 (xt_vI hs) dX1_heightOf_1 ?_
  refine xt_aload_n C dX1_heightOf_4 rfl ?_
  refine xt_get (f := 1) C xt_u1 rfl (by decide) (xt_cl1 _ _) (by decide) lkX1_15 (xt_vI hr) dX1_heightOf_5 ?_
  refine xt_aload_n C dX1_heightOf_8 rfl ?_
  refine xt_iload_n C dX1_heightOf_9 rfl ?_
  refine xt_cV C mv_X1_topOf lkX1_69 (ct_topOf (by exact hP9) ht) rfl (by decide) (xt_cl1 _ _) rfl (by decide) rfl (Nat.le_of_ble_eq_true rfl) dX1_heightOf_10 ?_
  refine xt_isubN C dX1_heightOf_13 (by omega) ?_
  refine xt_mmin C lkX1_64 mw_min rfl (by decide) dX1_heightOf_14 ?_
  exact xt_iret C dX1_heightOf_17 ⟨by decide, by decide⟩ (xt_qI (xt_min (by omega) (by omega)))
set_option maxRecDepth 20000 in
set_option maxHeartbeats 2000000 in
theorem ct_indexOf {c r sd lv bo : Nat} (hP : xt_Pic S 1 c r sd lv bo) {x y : Nat} : xt_Ct E l yX1_indexOf cX1_indexOf 3 (some Jvm.ClassFile.FieldType.int) 0 0 0 0 [.ref (E.1 1), .int (nI x), .int (nI y)] S (xt_Eq (some (.int (nI (y * c + x)))) S) := by
  refine xt_body (by decide +kernel) (xt_all rfl) (Nat.le_of_ble_eq_true rfl) (fun cx C hl9 => ?_)
  show xt_X E cx _ 0 0 0 [some (.ref (E.1 1)), some (.int (nI x)), some (.int (nI y))] [] S
  have hP9 := hP
  obtain ⟨hc, hr, hs, hv, hb, b1, b2, b3, b4, b5, b6, b7⟩ := hP
  refine xt_iload_n C dX1_indexOf_0 rfl ?_
  refine xt_aload_n C dX1_indexOf_1 rfl ?_
  refine xt_get (f := 0) C xt_u1 rfl (by decide) (xt_cl1 _ _) (by decide) lkX1_9 (xt_vI hc) dX1_indexOf_2 ?_
  refine xt_imulN C dX1_indexOf_5 ?_
  refine xt_iload_n C dX1_indexOf_6 rfl ?_
  refine xt_iaddN C dX1_indexOf_7 ?_
  exact xt_iret C dX1_indexOf_8 ⟨by decide, by decide⟩ ⟨rfl, rfl⟩
set_option maxRecDepth 20000 in
set_option maxHeartbeats 2000000 in
theorem ct_has {c r sd lv bo : Nat} (hP : xt_Pic S 1 c r sd lv bo) {x y : Int32} : xt_Ct E l yX1_has cX1_has 3 (some Jvm.ClassFile.FieldType.boolean) 1 22 0 0 [.ref (E.1 1), .int x, .int y] S (xt_Eq (some (.int (xt_b (xt_pix c r x y)))) S) := by
  refine xt_body (by decide +kernel) (xt_all rfl) (Nat.le_of_ble_eq_true rfl) (fun cx C hl9 => ?_)
  show xt_X E cx _ 0 0 0 [some (.ref (E.1 1)), some (.int x), some (.int y)] [] S
  have hP9 := hP
  obtain ⟨hc, hr, hs, hv, hb, b1, b2, b3, b4, b5, b6, b7⟩ := hP
  refine xt_iload_n C dX1_has_0 rfl ?_
  refine xt_iconst (v := nI 0) C dX1_has_1 rfl ?_
  refine xt_aload_n C dX1_has_2 rfl ?_
  refine xt_get (f := 0) C xt_u1 rfl (by decide) (xt_cl1 _ _) (by decide) lkX1_9 (xt_vI hc) dX1_has_3 ?_
  refine xt_iconst (v := nI 1) C dX1_has_6 rfl ?_
  refine xt_isubN C dX1_has_7 (by omega) ?_
  refine xt_cSN C ms_X5_isBetween lkX1_42 ct_between rfl (by decide) rfl (Nat.le_of_ble_eq_true rfl) dX1_has_8 ?_
  refine xt_if_eqB (tgt := 32) C dX1_has_11 (by decide) (fun c11 => ?_) (fun c11 => ?_)
  · refine xt_iconst (v := nI 0) C dX1_has_32 rfl ?_
    exact xt_zret C dX1_has_33 (by decide) ⟨by decide, by decide⟩ (by first | exact xt_q1 ⟨(xt_btw1 (by omega) (by omega)).mp c11, (xt_btw1 (by omega) (by omega)).mp c25⟩ | exact xt_q0 (fun h => c11 ((xt_btw1 (by omega) (by omega)).mpr h.1)) | exact xt_q0 (fun h => c25 ((xt_btw1 (by omega) (by omega)).mpr h.2)))
  · refine xt_iload_n C dX1_has_14 rfl ?_
    refine xt_iconst (v := nI 0) C dX1_has_15 rfl ?_
    refine xt_aload_n C dX1_has_16 rfl ?_
    refine xt_get (f := 1) C xt_u1 rfl (by decide) (xt_cl1 _ _) (by decide) lkX1_15 (xt_vI hr) dX1_has_17 ?_
    refine xt_iconst (v := nI 1) C dX1_has_20 rfl ?_
    refine xt_isubN C dX1_has_21 (by omega) ?_
    refine xt_cSN C ms_X5_isBetween lkX1_42 ct_between rfl (by decide) rfl (Nat.le_of_ble_eq_true rfl) dX1_has_22 ?_
    refine xt_if_eqB (tgt := 32) C dX1_has_25 (by decide) (fun c25 => ?_) (fun c25 => ?_)
    · refine xt_iconst (v := nI 0) C dX1_has_32 rfl ?_
      exact xt_zret C dX1_has_33 (by decide) ⟨by decide, by decide⟩ (by first | exact xt_q1 ⟨(xt_btw1 (by omega) (by omega)).mp c11, (xt_btw1 (by omega) (by omega)).mp c25⟩ | exact xt_q0 (fun h => c11 ((xt_btw1 (by omega) (by omega)).mpr h.1)) | exact xt_q0 (fun h => c25 ((xt_btw1 (by omega) (by omega)).mpr h.2)))
    · refine xt_iconst (v := nI 1) C dX1_has_28 rfl ?_
      refine xt_goto (tgt := 33) C dX1_has_29 (by decide) ?_
      exact xt_zret C dX1_has_33 (by decide) ⟨by decide, by decide⟩ (by first | exact xt_q1 ⟨(xt_btw1 (by omega) (by omega)).mp c11, (xt_btw1 (by omega) (by omega)).mp c25⟩ | exact xt_q0 (fun h => c11 ((xt_btw1 (by omega) (by omega)).mpr h.1)) | exact xt_q0 (fun h => c25 ((xt_btw1 (by omega) (by omega)).mpr h.2)))
end XC2
