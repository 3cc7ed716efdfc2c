/-! THE CLASS'S HELPERS AND THE PICTURE -/
section XC1
variable {E : xt_Ev} {l : Launch} {S : xt_St}
/-- the picture at cell p: columns, rows, side, levels, boost -/
def xt_Pic (S : xt_St) (p c r sd lv bo : Nat) : Prop := S.1 p 0 = nI c ∧ S.1 p 1 = nI r ∧ S.1 p 2 = nI sd ∧ S.1 p 3 = nI lv ∧ S.1 p 4 = nI bo ∧ (2 ≤ c ∧ c ≤ 16 ∧ 2 ≤ r ∧ r ≤ 16 ∧ (sd = 2 ∨ sd = 4 ∨ sd = 8) ∧ lv ≤ 3 ∧ bo ≤ 8)
theorem xt_cr {c r : Nat} (h1 : c ≤ 16) (h2 : r ≤ 16) : c * r ≤ 256 := Nat.mul_le_mul h1 h2
def xt_abs (x : Int32) : Int32 := if x < 0 then -x else x
def xt_pix (c r : Nat) (x y : Int32) : Prop := (∃ i, i < c ∧ x = nI i) ∧ ∃ j, j < r ∧ y = nI j
theorem xt_btw {x : Int32} {m : Nat} (hm : m < 2 ^ 31) : (nI 0 ≤ x ∧ x ≤ nI m) ↔ ∃ j, j ≤ m ∧ x = nI j := by
  constructor
  · rintro ⟨h1, h2⟩
    exact nI_of2 (nI_toInt hm) (Int32.not_lt.mpr h1) h2
  · rintro ⟨j, hj, rfl⟩
    exact ⟨nI_pos' (by omega), nI_le hj hm⟩
theorem xt_btw1 {x : Int32} {m : Nat} (h0 : 0 < m) (hm : m < 2 ^ 31) : (nI 0 ≤ x ∧ x ≤ nI (m - 1)) ↔ ∃ j, j < m ∧ x = nI j := by
  rw [xt_btw (by omega)]
  exact ⟨fun ⟨j, h, e⟩ => ⟨j, by omega, e⟩, fun ⟨j, h, e⟩ => ⟨j, by omega, e⟩⟩
set_option maxRecDepth 20000 in
set_option maxHeartbeats 2000000 in
theorem ct_between {x b1 b2 : Int32} : xt_Ct E l yX5_isBetween cX5_isBetween 3 (some Jvm.ClassFile.FieldType.boolean) 0 0 0 0 [.int x, .int b1, .int b2] S (xt_Eq (some (.int (xt_b (b1 ≤ x ∧ x ≤ b2)))) S) := by
  refine xt_body (by decide +kernel) (xt_all rfl) (Nat.le_of_ble_eq_true rfl) (fun cx C hl9 => ?_)
  show xt_X E cx _ 0 0 0 [some (.int x), some (.int b1), some (.int b2)] [] S
  refine xt_iload_n C dX5_isBetween_0 rfl ?_
  refine xt_iload_n C dX5_isBetween_1 rfl ?_
  refine xt_icmp_lt (tgt := 14) C dX5_isBetween_2 (by decide) (fun c2 => ?_) (fun c2 => ?_)
  · refine xt_iconst (v := nI 0) C dX5_isBetween_14 rfl ?_
    exact xt_zret C dX5_isBetween_15 (by decide) ⟨by decide, by decide⟩ (by first | exact xt_q1 ⟨Int32.not_lt.mp c2, Int32.not_lt.mp c7⟩ | exact xt_q0 (fun h => absurd h.1 (Int32.not_le.mpr c2)) | exact xt_q0 (fun h => absurd h.2 (Int32.not_le.mpr c7)))
  · refine xt_iload_n C dX5_isBetween_5 rfl ?_
    refine xt_iload_n C dX5_isBetween_6 rfl ?_
    refine xt_icmp_gt (tgt := 14) C dX5_isBetween_7 (by decide) (fun c7 => ?_) (fun c7 => ?_)
    · refine xt_iconst (v := nI 0) C dX5_isBetween_14 rfl ?_
      exact xt_zret C dX5_isBetween_15 (by decide) ⟨by decide, by decide⟩ (by first | exact xt_q1 ⟨Int32.not_lt.mp c2, Int32.not_lt.mp c7⟩ | exact xt_q0 (fun h => absurd h.1 (Int32.not_le.mpr c2)) | exact xt_q0 (fun h => absurd h.2 (Int32.not_le.mpr c7)))
    · refine xt_iconst (v := nI 1) C dX5_isBetween_10 rfl ?_
      refine xt_goto (tgt := 15) C dX5_isBetween_11 (by decide) ?_
      exact xt_zret C dX5_isBetween_15 (by decide) ⟨by decide, by decide⟩ (by first | exact xt_q1 ⟨Int32.not_lt.mp c2, Int32.not_lt.mp c7⟩ | exact xt_q0 (fun h => absurd h.1 (Int32.not_le.mpr c2)) | exact xt_q0 (fun h => absurd h.2 (Int32.not_le.mpr c7)))
set_option maxRecDepth 20000 in
set_option maxHeartbeats 2000000 in
theorem ct_at {i len : Nat} (hi : i < xt_NC) (ha : xt_ar E 0 i len) (hl : len < 2 ^ 31) {j : Nat} (hj : j < len) {v : Int32} (hv : S.2.1 i j = v) : xt_Ct E l yX5_at cX5_at 2 (some Jvm.ClassFile.FieldType.int) 0 0 0 0 [.ref (E.1 i), .int (nI j)] S (xt_Eq (some (.int v)) S) := by
  refine xt_body (by decide +kernel) (xt_all rfl) (Nat.le_of_ble_eq_true rfl) (fun cx C hl9 => ?_)
  show xt_X E cx _ 0 0 0 [some (.ref (E.1 i)), some (.int (nI j))] [] S
  refine xt_aload_n C dX5_at_0 rfl ?_
  refine xt_ifnull C dX5_at_1 ?_
  refine xt_iload_n C dX5_at_4 rfl ?_
  refine xt_if_ltN (tgt := 20) C dX5_at_5 (by decide) (by omega) ?_
  refine xt_iload_n C dX5_at_8 rfl ?_
  refine xt_aload_n C dX5_at_9 rfl ?_
  refine xt_alen (v := nI len) (cs := 0) C hi (by decide) (ha _) rfl dX5_at_10 ?_
  refine xt_icmp_geN (tgt := 20) C dX5_at_11 (by decide) (by omega) (by omega) (fun c11 => ?_) (fun c11 => ?_)
  · exact absurd c11 (by omega)
  · refine xt_aload_n C dX5_at_14 rfl ?_
    refine xt_iload_n C dX5_at_15 rfl ?_
    refine xt_ialdN C hi ha (by omega) (by assumption) hv dX5_at_16 ?_
    refine xt_goto (tgt := 21) C dX5_at_17 (by decide) ?_
    exact xt_iret C dX5_at_21 ⟨by decide, by decide⟩ ⟨rfl, rfl⟩
set_option maxRecDepth 20000 in
set_option maxHeartbeats 2000000 in
theorem ct_put {i len : Nat} (hi : i < xt_NC) (ha : xt_ar E 0 i len) (hl : len < 2 ^ 31) {j : Nat} (hj : j < len) {x : Int32} : xt_Ct E l yX5_put cX5_put 3 none 0 0 0 0 [.ref (E.1 i), .int (nI j), .int x] S (xt_Eq none (xt_sA S i (upd (S.2.1 i) j x))) := by
  refine xt_body (by decide +kernel) (xt_all rfl) (Nat.le_of_ble_eq_true rfl) (fun cx C hl9 => ?_)
  show xt_X E cx _ 0 0 0 [some (.ref (E.1 i)), some (.int (nI j)), some (.int x)] [] S
  refine xt_aload_n C dX5_put_0 rfl ?_
  refine xt_ifnull C dX5_put_1 ?_
  refine xt_iload_n C dX5_put_4 rfl ?_
  refine xt_if_ltN (tgt := 18) C dX5_put_5 (by decide) (by omega) ?_
  refine xt_iload_n C dX5_put_8 rfl ?_
  refine xt_aload_n C dX5_put_9 rfl ?_
  refine xt_alen (v := nI len) (cs := 0) C hi (by decide) (ha _) rfl dX5_put_10 ?_
  refine xt_icmp_geN (tgt := 18) C dX5_put_11 (by decide) (by omega) (by omega) (fun c11 => ?_) (fun c11 => ?_)
  · exact absurd c11 (by omega)
  · refine xt_aload_n C dX5_put_14 rfl ?_
    refine xt_iload_n C dX5_put_15 rfl ?_
    refine xt_iload_n C dX5_put_16 rfl ?_
    refine xt_iastN C hi ha (by omega) (by assumption) dX5_put_17 ?_
    exact xt_vret C dX5_put_18 ⟨by decide, by decide⟩ ⟨rfl, rfl⟩
set_option maxRecDepth 20000 in
set_option maxHeartbeats 2000000 in
theorem ct_put_out {i len : Nat} (hi : i < xt_NC) (ha : xt_ar E 0 i len) (hl : len < 2 ^ 31) {j : Nat} (hj : len ≤ j) (hj2 : j < 2 ^ 31) {x : Int32} : xt_Ct E l yX5_put cX5_put 3 none 0 0 0 0 [.ref (E.1 i), .int (nI j), .int x] S (xt_Eq none S) := by
  refine xt_body (by decide +kernel) (xt_all rfl) (Nat.le_of_ble_eq_true rfl) (fun cx C hl9 => ?_)
  show xt_X E cx _ 0 0 0 [some (.ref (E.1 i)), some (.int (nI j)), some (.int x)] [] S
  refine xt_aload_n C dX5_put_0 rfl ?_
  refine xt_ifnull C dX5_put_1 ?_
  refine xt_iload_n C dX5_put_4 rfl ?_
  refine xt_if_ltN (tgt := 18) C dX5_put_5 (by decide) (by omega) ?_
  refine xt_iload_n C dX5_put_8 rfl ?_
  refine xt_aload_n C dX5_put_9 rfl ?_
  refine xt_alen (v := nI len) (cs := 0) C hi (by decide) (ha _) rfl dX5_put_10 ?_
  refine xt_icmp_geN (tgt := 18) C dX5_put_11 (by decide) (by omega) (by omega) (fun c11 => ?_) (fun c11 => ?_)
  · exact xt_vret C dX5_put_18 ⟨by decide, by decide⟩ ⟨rfl, rfl⟩
  · exact absurd c11 (by omega)
set_option maxRecDepth 20000 in
set_option maxHeartbeats 2000000 in
theorem ct_quot {a b : Nat} (ha : a < 2 ^ 31) (h0 : 0 < b) (hb : b < 2 ^ 31) : xt_Ct E l yX5_quotient cX5_quotient 2 (some Jvm.ClassFile.FieldType.int) 0 0 0 0 [.int (nI a), .int (nI b)] S (xt_Eq (some (.int (nI (a / b)))) S) := by
  refine xt_body (by decide +kernel) (xt_all rfl) (Nat.le_of_ble_eq_true rfl) (fun cx C hl9 => ?_)
  show xt_X E cx _ 0 0 0 [some (.int (nI a)), some (.int (nI b))] [] S
  refine xt_iload_n C dX5_quotient_0 rfl ?_
  refine xt_iconst (v := nI 1) C dX5_quotient_1 rfl ?_
  refine xt_icmp_geN (tgt := 9) C dX5_quotient_2 (by decide) (by omega) (by omega) (fun c2 => ?_) (fun c2 => ?_)
  · refine xt_iload_n C dX5_quotient_9 rfl ?_
    refine xt_iload_n C dX5_quotient_10 rfl ?_
    refine xt_idivN C dX5_quotient_11 (by omega) (by omega) (by omega) ?_
    exact xt_iret C dX5_quotient_12 ⟨by decide, by decide⟩ ⟨rfl, rfl⟩
  · exact absurd c2 (by omega)
set_option maxRecDepth 20000 in
set_option maxHeartbeats 2000000 in
theorem ct_place {x y : Nat} : xt_Ct E l yX5_placeOf cX5_placeOf 2 (some Jvm.ClassFile.FieldType.int) 0 0 0 0 [.int (nI x), .int (nI y)] S (xt_Eq (some (.int (nI (8 * y + x)))) S) := by
  refine xt_body (by decide +kernel) (xt_all rfl) (Nat.le_of_ble_eq_true rfl) (fun cx C hl9 => ?_)
  show xt_X E cx _ 0 0 0 [some (.int (nI x)), some (.int (nI y))] [] S
  refine xt_iload_n C dX5_placeOf_0 rfl ?_
  refine xt_bipush (v := nI 8) C dX5_placeOf_1 (by decide) ?_
  refine xt_imulN C dX5_placeOf_3 ?_
  refine xt_iload_n C dX5_placeOf_4 rfl ?_
  refine xt_iaddN C dX5_placeOf_5 ?_
  exact xt_iret C dX5_placeOf_6 ⟨by decide, by decide⟩ (xt_qI (by rw [Nat.mul_comm]))
set_option maxRecDepth 20000 in
set_option maxHeartbeats 2000000 in
theorem ct_amount {x : Int32} : xt_Ct E l yX5_amountOf cX5_amountOf 1 (some Jvm.ClassFile.FieldType.int) 0 0 0 0 [.int x] S (xt_Eq (some (.int (xt_abs x))) S) := by
  refine xt_body (by decide +kernel) (xt_all rfl) (Nat.le_of_ble_eq_true rfl) (fun cx C hl9 => ?_)
  show xt_X E cx _ 0 0 0 [some (.int x)] [] S
  refine xt_iload_n C dX5_amountOf_0 rfl ?_
  refine xt_if_ge (tgt := 9) C dX5_amountOf_1 (by decide) (fun c1 => ?_) (fun c1 => ?_)
  · refine xt_iload_n C dX5_amountOf_9 rfl ?_
    exact xt_iret C dX5_amountOf_10 ⟨by decide, by decide⟩ (by first | exact xt_qI (by unfold xt_abs; rw [if_neg (Int32.not_lt.mpr c1)]) | exact xt_qI (by unfold xt_abs; rw [if_pos (Int32.not_le.mp c1)]))
  · refine xt_iload_n C dX5_amountOf_4 rfl ?_
    refine xt_ineg C dX5_amountOf_5 ?_
    refine xt_goto (tgt := 10) C dX5_amountOf_6 (by decide) ?_
    exact xt_iret C dX5_amountOf_10 ⟨by decide, by decide⟩ (by first | exact xt_qI (by unfold xt_abs; rw [if_neg (Int32.not_lt.mpr c1)]) | exact xt_qI (by unfold xt_abs; rw [if_pos (Int32.not_le.mp c1)]))
end XC1
