/-! THE SCRIPT: signs, forms -/
section XC19
variable {E : xt_Ev} {l : Launch} {S : xt_St}
/-- the sign at j of a text of n signs; -1 behind its end -/
def xt_sg (a : Nat → Int32) (n j : Nat) : Int32 := if j < n then a j else -1
theorem xt_sg1 {a : Nat → Int32} {n j : Nat} (h : j < n) : xt_sg a n j = a j := if_pos h
theorem xt_sg0 {a : Nat → Int32} {n j : Nat} (h : n ≤ j) : xt_sg a n j = -1 := if_neg (by omega)
/-- which text an item's form is -/
def xt_fo (x : Int32) : Nat := if x = nI 114 then 21 else if x = nI 109 ∨ x = nI 117 then 22 else if x = nI 98 ∨ x = nI 108 ∨ x = nI 116 then 23 else 24
/-- the sign x fits the form's sign c -/
def xt_ft (c x : Int32) : Prop := if c = nI 99 then nI 97 ≤ x ∧ x ≤ nI 112 else if c = nI 82 then nI 65 ≤ x ∧ x ≤ nI 80 else if c = nI 104 then (nI 48 ≤ x ∧ x ≤ nI 57) ∨ (nI 97 ≤ x ∧ x ≤ nI 102) else if c = nI 100 then nI 48 ≤ x ∧ x ≤ nI 57 else x = c
/-- how many from 0 on, below m, hold of P all through -/
noncomputable def xt_pre (P : Nat → Prop) : Nat → Nat
  | 0 => 0
  | m + 1 => @ite Nat (xt_pre P m = m ∧ P m) (Classical.propDecidable _) (m + 1) (xt_pre P m)
theorem xt_pre_all {P : Nat → Prop} {m : Nat} (h : ∀ j, j < m → P j) : xt_pre P m = m := by
  induction m with
  | zero => rfl
  | succ m ih =>
    unfold xt_pre
    rw [if_pos ⟨ih (fun j hj => h j (by omega)), h m (by omega)⟩]
theorem xt_pre_stop {P : Nat → Prop} {k m : Nat} (h : ∀ j, j < k → P j) (hk : ¬ P k) (hm : k ≤ m) : xt_pre P m = k := by
  induction m with
  | zero => simp only [xt_pre]; omega
  | succ m ih =>
    by_cases h9 : k = m + 1
    · subst h9; exact xt_pre_all h
    · have h8 := ih (by omega)
      unfold xt_pre
      rw [if_neg, h8]
      rintro ⟨h1, h2⟩
      rw [h8] at h1
      subst h1
      exact hk h2
set_option maxRecDepth 20000 in
set_option maxHeartbeats 2000000 in
theorem ct_signAt {n j : Nat} (hn : S.1 46 1 = nI n) (h60 : n ≤ 60) (hj : j < 2 ^ 31) : xt_Ct E l yX3_signAt cX3_signAt 2 (some Jvm.ClassFile.FieldType.int) 0 0 0 0 [.ref (E.1 46), .int (nI j)] S (xt_Eq (some (.int (xt_sg (S.2.1 47) n j))) S) := by
  refine xt_body (by decide +kernel) (xt_all rfl) (Nat.le_of_ble_eq_true rfl) (fun cx C hl9 => ?_)
  show xt_X E cx _ 0 0 0 [some (.ref (E.1 46)), some (.int (nI j))] [] S
  refine xt_iload_n C dX3_signAt_0 rfl ?_
  refine xt_if_ltN (tgt := 30) C dX3_signAt_1 (by decide) (by omega) ?_
  refine xt_iload_n C dX3_signAt_4 rfl ?_
  refine xt_aload_n C dX3_signAt_5 rfl ?_
  refine xt_get (f := 1) C xt_u3 rfl (by decide) (xt_cl46 _ _) (by decide) lkX3_15 (xt_vI hn) dX3_signAt_6 ?_
  refine xt_icmp_geN (tgt := 30) C dX3_signAt_9 (by decide) (by omega) (by omega) (fun c9 => ?_) (fun c9 => ?_)
  · refine xt_iconst (v := -1) C dX3_signAt_30 rfl ?_
    exact xt_iret C dX3_signAt_31 ⟨by decide, by decide⟩ (by first | rw [xt_sg1 (by omega)]; exact ⟨rfl, rfl⟩ | rw [xt_sg0 (by omega)]; exact ⟨rfl, rfl⟩)
  · refine xt_iload_n C dX3_signAt_12 rfl ?_
    refine xt_aload_n C dX3_signAt_13 rfl ?_
    refine xt_get (f := 0) C xt_u3 rfl (by decide) (xt_cl46 _ _) (by decide) lkX3_9 rfl dX3_signAt_14 ?_
    refine xt_alen (v := nI 60) (cs := 3) C (by decide) (by decide) ((xt_cl47 _) _) rfl dX3_signAt_17 ?_
    refine xt_icmp_geN (tgt := 30) C dX3_signAt_18 (by decide) (by omega) (by omega) (fun c18 => ?_) (fun c18 => ?_)
    · exact absurd c18 (by omega)
    · refine xt_aload_n C dX3_signAt_21 rfl ?_
      refine xt_get (f := 0) C xt_u3 rfl (by decide) (xt_cl46 _ _) (by decide) lkX3_9 rfl dX3_signAt_22 ?_
      refine xt_iload_n C dX3_signAt_25 rfl ?_
      refine xt_caldN C (by decide) (xt_cl47 _) (by omega) (by decide) rfl dX3_signAt_26 ?_
      refine xt_goto (tgt := 31) C dX3_signAt_27 (by decide) ?_
      exact xt_iret C dX3_signAt_31 ⟨by decide, by decide⟩ (by first | rw [xt_sg1 (by omega)]; exact ⟨rfl, rfl⟩ | rw [xt_sg0 (by omega)]; exact ⟨rfl, rfl⟩)
set_option maxRecDepth 20000 in
set_option maxHeartbeats 2000000 in
theorem ct_columnAt {n j : Nat} (hn : S.1 46 1 = nI n) (h60 : n ≤ 60) (hj : j < 2 ^ 31) : xt_Ct E l yX3_columnAt cX3_columnAt 2 (some Jvm.ClassFile.FieldType.int) 1 21 0 0 [.ref (E.1 46), .int (nI j)] S (xt_Eq (some (.int (xt_sg (S.2.1 47) n j - nI 97))) S) := by
  refine xt_body (by decide +kernel) (xt_all rfl) (Nat.le_of_ble_eq_true rfl) (fun cx C hl9 => ?_)
  show xt_X E cx _ 0 0 0 [some (.ref (E.1 46)), some (.int (nI j))] [] S
  refine xt_aload_n C dX3_columnAt_0 rfl ?_
  refine xt_iload_n C dX3_columnAt_1 rfl ?_
  refine xt_cV C mv_X3_signAt lkX3_30 (ct_signAt hn h60 hj) rfl (by decide) (xt_cl46 _ _) rfl (by decide) rfl (Nat.le_of_ble_eq_true rfl) dX3_columnAt_2 ?_
  refine xt_bipush (v := nI 97) C dX3_columnAt_5 (by decide) ?_
  refine xt_isub C dX3_columnAt_7 ?_
  exact xt_iret C dX3_columnAt_8 ⟨by decide, by decide⟩ ⟨rfl, rfl⟩
set_option maxRecDepth 20000 in
set_option maxHeartbeats 2000000 in
theorem ct_rowAt {n j : Nat} (hn : S.1 46 1 = nI n) (h60 : n ≤ 60) (hj : j < 2 ^ 31) : xt_Ct E l yX3_rowAt cX3_rowAt 2 (some Jvm.ClassFile.FieldType.int) 1 21 0 0 [.ref (E.1 46), .int (nI j)] S (xt_Eq (some (.int (xt_sg (S.2.1 47) n j - nI 65))) S) := by
  refine xt_body (by decide +kernel) (xt_all rfl) (Nat.le_of_ble_eq_true rfl) (fun cx C hl9 => ?_)
  show xt_X E cx _ 0 0 0 [some (.ref (E.1 46)), some (.int (nI j))] [] S
  refine xt_aload_n C dX3_rowAt_0 rfl ?_
  refine xt_iload_n C dX3_rowAt_1 rfl ?_
  refine xt_cV C mv_X3_signAt lkX3_30 (ct_signAt hn h60 hj) rfl (by decide) (xt_cl46 _ _) rfl (by decide) rfl (Nat.le_of_ble_eq_true rfl) dX3_rowAt_2 ?_
  refine xt_bipush (v := nI 65) C dX3_rowAt_5 (by decide) ?_
  refine xt_isub C dX3_rowAt_7 ?_
  exact xt_iret C dX3_rowAt_8 ⟨by decide, by decide⟩ ⟨rfl, rfl⟩
def xt_hx (x : Int32) : Int32 := if nI 57 < x then x - nI 97 + nI 10 else x - nI 48
set_option maxRecDepth 20000 in
set_option maxHeartbeats 2000000 in
theorem ct_hexAt {n j : Nat} (hn : S.1 46 1 = nI n) (h60 : n ≤ 60) (hj : j < 2 ^ 31) : xt_Ct E l yX3_hexAt cX3_hexAt 3 (some Jvm.ClassFile.FieldType.int) 1 21 0 0 [.ref (E.1 46), .int (nI j)] S (xt_Eq (some (.int (xt_hx (xt_sg (S.2.1 47) n j)))) S) := by
  refine xt_body (by decide +kernel) (xt_all rfl) (Nat.le_of_ble_eq_true rfl) (fun cx C hl9 => ?_)
  show xt_X E cx _ 0 0 0 [some (.ref (E.1 46)), some (.int (nI j)), none] [] S
  refine xt_aload_n C dX3_hexAt_0 rfl ?_
  refine xt_iload_n C dX3_hexAt_1 rfl ?_
  refine xt_cV C mv_X3_signAt lkX3_30 (ct_signAt hn h60 hj) rfl (by decide) (xt_cl46 _ _) rfl (by decide) rfl (Nat.le_of_ble_eq_true rfl) dX3_hexAt_2 ?_
  refine xt_istore_n (lo' := [_, _, _]) C dX3_hexAt_5 (Nat.le_of_ble_eq_true rfl) rfl rfl ?_
  refine xt_iload_n C dX3_hexAt_6 rfl ?_
  refine xt_bipush (v := nI 57) C dX3_hexAt_7 (by decide) ?_
  refine xt_icmp_gt (tgt := 19) C dX3_hexAt_9 (by decide) (fun c9 => ?_) (fun c9 => ?_)
  · refine xt_iload_n C dX3_hexAt_19 rfl ?_
    refine xt_bipush (v := nI 97) C dX3_hexAt_20 (by decide) ?_
    refine xt_isub C dX3_hexAt_22 ?_
    refine xt_bipush (v := nI 10) C dX3_hexAt_23 (by decide) ?_
    refine xt_iadd C dX3_hexAt_25 ?_
    exact xt_iret C dX3_hexAt_26 ⟨by decide, by decide⟩ (by unfold xt_hx; first | rw [if_pos c9]; exact ⟨rfl, rfl⟩ | rw [if_neg c9]; exact ⟨rfl, rfl⟩)
  · refine xt_iload_n C dX3_hexAt_12 rfl ?_
    refine xt_bipush (v := nI 48) C dX3_hexAt_13 (by decide) ?_
    refine xt_isub C dX3_hexAt_15 ?_
    refine xt_goto (tgt := 26) C dX3_hexAt_16 (by decide) ?_
    exact xt_iret C dX3_hexAt_26 ⟨by decide, by decide⟩ (by unfold xt_hx; first | rw [if_pos c9]; exact ⟨rfl, rfl⟩ | rw [if_neg c9]; exact ⟨rfl, rfl⟩)
set_option maxRecDepth 20000 in
set_option maxHeartbeats 2000000 in
theorem ct_append1 {n : Nat} {x : Int32} (hn : S.1 46 1 = nI n) (h60 : n < 60) : xt_Ct E l yX3_append cX3_append 2 none 0 0 0 0 [.ref (E.1 46), .int x] S (xt_Eq none (xt_sN (xt_sA S 47 (upd (S.2.1 47) n (vp_nar .char x))) 46 1 (nI (n + 1)))) := by
  refine xt_body (by decide +kernel) (xt_all rfl) (Nat.le_of_ble_eq_true rfl) (fun cx C hl9 => ?_)
  show xt_X E cx _ 0 0 0 [some (.ref (E.1 46)), some (.int x)] [] S
  refine xt_aload_n C dX3_append_0 rfl ?_
  refine xt_get (f := 1) C xt_u3 rfl (by decide) (xt_cl46 _ _) (by decide) lkX3_15 (xt_vI hn) dX3_append_1 ?_
  refine xt_if_ltN (tgt := 39) C dX3_append_4 (by decide) (by omega) ?_
  refine xt_aload_n C dX3_append_7 rfl ?_
  refine xt_get (f := 1) C xt_u3 rfl (by decide) (xt_cl46 _ _) (by decide) lkX3_15 (xt_vI hn) dX3_append_8 ?_
  refine xt_aload_n C dX3_append_11 rfl ?_
  refine xt_get (f := 0) C xt_u3 rfl (by decide) (xt_cl46 _ _) (by decide) lkX3_9 rfl dX3_append_12 ?_
  refine xt_alen (v := nI 60) (cs := 3) C (by decide) (by decide) ((xt_cl47 _) _) rfl dX3_append_15 ?_
  refine xt_icmp_geN (tgt := 39) C dX3_append_16 (by decide) (by omega) (by omega) (fun c16 => ?_) (fun c16 => ?_)
  · exact absurd c16 (by omega)
  · refine xt_aload_n C dX3_append_19 rfl ?_
    refine xt_get (f := 0) C xt_u3 rfl (by decide) (xt_cl46 _ _) (by decide) lkX3_9 rfl dX3_append_20 ?_
    refine xt_aload_n C dX3_append_23 rfl ?_
    refine xt_get (f := 1) C xt_u3 rfl (by decide) (xt_cl46 _ _) (by decide) lkX3_15 (xt_vI hn) dX3_append_24 ?_
    refine xt_iload_n C dX3_append_27 rfl ?_
    refine xt_castN C (by decide) (xt_cl47 _) (by omega) (by decide) dX3_append_28 ?_
    refine xt_aload_n C dX3_append_29 rfl ?_
    refine xt_dup C dX3_append_30 rfl ?_
    refine xt_get (f := 1) C xt_u3 rfl (by decide) (xt_cl46 _ _) (by decide) lkX3_15 (xt_vI hn) dX3_append_31 ?_
    refine xt_iconst (v := nI 1) C dX3_append_34 rfl ?_
    refine xt_iaddN C dX3_append_35 ?_
    refine xt_put (f := 1) C xt_u3 rfl (by decide) (xt_cl46 _ _) (by decide) tyX3 tyX3_ok nmX3 lkX3_15 rfl (tyX3_ok 1 (by decide)) rfl rfl (Nat.le_of_ble_eq_true rfl) rfl dX3_append_36 ?_
    exact xt_vret C dX3_append_39 ⟨by decide, by decide⟩ ⟨rfl, rfl⟩
set_option maxRecDepth 20000 in
set_option maxHeartbeats 2000000 in
theorem ct_append0 {n : Nat} {x : Int32} (hn : S.1 46 1 = nI n) (h60 : 60 ≤ n) (hn31 : n < 2 ^ 31) : xt_Ct E l yX3_append cX3_append 2 none 0 0 0 0 [.ref (E.1 46), .int x] S (xt_Eq none S) := by
  refine xt_body (by decide +kernel) (xt_all rfl) (Nat.le_of_ble_eq_true rfl) (fun cx C hl9 => ?_)
  show xt_X E cx _ 0 0 0 [some (.ref (E.1 46)), some (.int x)] [] S
  refine xt_aload_n C dX3_append_0 rfl ?_
  refine xt_get (f := 1) C xt_u3 rfl (by decide) (xt_cl46 _ _) (by decide) lkX3_15 (xt_vI hn) dX3_append_1 ?_
  refine xt_if_ltN (tgt := 39) C dX3_append_4 (by decide) (by omega) ?_
  refine xt_aload_n C dX3_append_7 rfl ?_
  refine xt_get (f := 1) C xt_u3 rfl (by decide) (xt_cl46 _ _) (by decide) lkX3_15 (xt_vI hn) dX3_append_8 ?_
  refine xt_aload_n C dX3_append_11 rfl ?_
  refine xt_get (f := 0) C xt_u3 rfl (by decide) (xt_cl46 _ _) (by decide) lkX3_9 rfl dX3_append_12 ?_
  refine xt_alen (v := nI 60) (cs := 3) C (by decide) (by decide) ((xt_cl47 _) _) rfl dX3_append_15 ?_
  refine xt_icmp_geN (tgt := 39) C dX3_append_16 (by decide) (by omega) (by omega) (fun c16 => ?_) (fun c16 => ?_)
  · exact xt_vret C dX3_append_39 ⟨by decide, by decide⟩ ⟨rfl, rfl⟩
  · exact absurd c16 (by omega)
end XC19
