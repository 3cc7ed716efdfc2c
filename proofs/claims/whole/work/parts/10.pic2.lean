/-! THE PICTURE'S WRITES AND SUMS -/
section XC3
variable {E : xt_Ev} {l : Launch} {S : xt_St}
/-- a switch's number: one of the first K, or out of range -/
theorem xt_sw (K : Nat) (hK : K < 2 ^ 31) (x : Int32) : (∃ j, j < K ∧ x = nI j) ∨ (x.toInt < 0 ∨ (K : Int) - 1 < x.toInt) := by
  rcases pk_ix x hK with h | h | ⟨j, hj, e⟩
  · exact Or.inr (Or.inl (by simpa using Int32.lt_iff_toInt_lt.mp h))
  · refine Or.inr (Or.inr ?_)
    have h9 := Int32.le_iff_toInt_le.mp h
    rw [nI_toInt hK] at h9
    omega
  · exact Or.inl ⟨j, hj, e⟩
def xt_sum2 (f : Nat → Int32) (c lf tp w h : Nat) : Int32 := xt_it (fun y s => xt_it (fun x s => s + f ((tp + y) * c + (lf + x))) w s) h 0
def xt_okv (x : Int32) : Prop := nI 0 ≤ x ∧ x ≤ nI 255
/-- what may be set: 0 the side, 1 the levels, 2 the boost -/
def xt_set (what v : Int32) : Prop := (what = nI 0 ∧ (v = nI 2 ∨ v = nI 4 ∨ v = nI 8)) ∨ (what = nI 1 ∧ nI 0 ≤ v ∧ v ≤ nI 3) ∨ (what = nI 2 ∧ nI 0 ≤ v ∧ v ≤ nI 8)
set_option maxRecDepth 20000 in
set_option maxHeartbeats 2000000 in
theorem ct_isSettable {what v : Int32} : xt_Ct E l yX5_isSettable cX5_isSettable 2 (some Jvm.ClassFile.FieldType.boolean) 1 22 0 0 [.int what, .int v] S (xt_Eq (some (.int (xt_b (xt_set what v)))) S) := by
  refine xt_body (by decide +kernel) (xt_all rfl) (Nat.le_of_ble_eq_true rfl) (fun cx C hl9 => ?_)
  show xt_X E cx _ 0 0 0 [some (.int what), some (.int v)] [] S
  rcases xt_sw 3 (by decide) what with ⟨j, hj, rfl⟩ | hj
  · match j, hj with
    | 0, _ =>
      refine xt_iload_n C dX5_isSettable_0 rfl ?_
      refine xt_tabIn (tgt := 28) C dX5_isSettable_1 (by decide +kernel) (by decide +kernel) rfl (by decide) ?_
      refine xt_iload_n C dX5_isSettable_28 rfl ?_
      refine xt_iconst (v := nI 2) C dX5_isSettable_29 rfl ?_
      refine xt_icmp_eq (tgt := 44) C dX5_isSettable_30 (by decide) (fun c30 => ?_) (fun c30 => ?_)
      · refine xt_iconst (v := nI 1) C dX5_isSettable_44 rfl ?_
        refine xt_goto (tgt := 49) C dX5_isSettable_45 (by decide) ?_
        exact xt_zret C dX5_isSettable_49 (by decide) ⟨by decide, by decide⟩ (by first | exact xt_q1 (Or.inl ⟨rfl, Or.inl c30⟩) | exact xt_q1 (Or.inl ⟨rfl, Or.inr (Or.inl c35)⟩) | exact xt_q1 (Or.inl ⟨rfl, Or.inr (Or.inr c41)⟩) | exact xt_q0 (fun h => by rcases h with ⟨-, h | h | h⟩ | ⟨h, -⟩ | ⟨h, -⟩ <;> first | exact c30 h | exact c35 h | exact c41 h | exact absurd h (by decide)))
      · refine xt_iload_n C dX5_isSettable_33 rfl ?_
        refine xt_iconst (v := nI 4) C dX5_isSettable_34 rfl ?_
        refine xt_icmp_eq (tgt := 44) C dX5_isSettable_35 (by decide) (fun c35 => ?_) (fun c35 => ?_)
        · refine xt_iconst (v := nI 1) C dX5_isSettable_44 rfl ?_
          refine xt_goto (tgt := 49) C dX5_isSettable_45 (by decide) ?_
          exact xt_zret C dX5_isSettable_49 (by decide) ⟨by decide, by decide⟩ (by first | exact xt_q1 (Or.inl ⟨rfl, Or.inl c30⟩) | exact xt_q1 (Or.inl ⟨rfl, Or.inr (Or.inl c35)⟩) | exact xt_q1 (Or.inl ⟨rfl, Or.inr (Or.inr c41)⟩) | exact xt_q0 (fun h => by rcases h with ⟨-, h | h | h⟩ | ⟨h, -⟩ | ⟨h, -⟩ <;> first | exact c30 h | exact c35 h | exact c41 h | exact absurd h (by decide)))
        · refine xt_iload_n C dX5_isSettable_38 rfl ?_
          refine xt_bipush (v := nI 8) C dX5_isSettable_39 (by decide) ?_
          refine xt_icmp_ne (tgt := 48) C dX5_isSettable_41 (by decide) (fun c41 => ?_) (fun c41 => ?_)
          · refine xt_iconst (v := nI 0) C dX5_isSettable_48 rfl ?_
            exact xt_zret C dX5_isSettable_49 (by decide) ⟨by decide, by decide⟩ (by first | exact xt_q1 (Or.inl ⟨rfl, Or.inl c30⟩) | exact xt_q1 (Or.inl ⟨rfl, Or.inr (Or.inl c35)⟩) | exact xt_q1 (Or.inl ⟨rfl, Or.inr (Or.inr c41)⟩) | exact xt_q0 (fun h => by rcases h with ⟨-, h | h | h⟩ | ⟨h, -⟩ | ⟨h, -⟩ <;> first | exact c30 h | exact c35 h | exact c41 h | exact absurd h (by decide)))
          · refine xt_iconst (v := nI 1) C dX5_isSettable_44 rfl ?_
            refine xt_goto (tgt := 49) C dX5_isSettable_45 (by decide) ?_
            exact xt_zret C dX5_isSettable_49 (by decide) ⟨by decide, by decide⟩ (by first | exact xt_q1 (Or.inl ⟨rfl, Or.inl c30⟩) | exact xt_q1 (Or.inl ⟨rfl, Or.inr (Or.inl c35)⟩) | exact xt_q1 (Or.inl ⟨rfl, Or.inr (Or.inr c41)⟩) | exact xt_q0 (fun h => by rcases h with ⟨-, h | h | h⟩ | ⟨h, -⟩ | ⟨h, -⟩ <;> first | exact c30 h | exact c35 h | exact c41 h | exact absurd h (by decide)))
    | 1, _ =>
      refine xt_iload_n C dX5_isSettable_0 rfl ?_
      refine xt_tabIn (tgt := 50) C dX5_isSettable_1 (by decide +kernel) (by decide +kernel) rfl (by decide) ?_
      refine xt_iload_n C dX5_isSettable_50 rfl ?_
      refine xt_iconst (v := nI 0) C dX5_isSettable_51 rfl ?_
      refine xt_iconst (v := nI 3) C dX5_isSettable_52 rfl ?_
      refine xt_cS C ms_X5_isBetween lkX5_61 ct_between rfl (by decide) rfl (Nat.le_of_ble_eq_true rfl) dX5_isSettable_53 ?_
      exact xt_zret C dX5_isSettable_56 (xt_bz _) ⟨by decide, by decide⟩ (xt_qI (xt_bc ⟨fun h => Or.inr (Or.inl ⟨rfl, h⟩), fun h => by rcases h with ⟨h, -⟩ | ⟨-, h⟩ | ⟨h, -⟩ <;> first | exact h | exact absurd h (by decide)⟩))
    | 2, _ =>
      refine xt_iload_n C dX5_isSettable_0 rfl ?_
      refine xt_tabIn (tgt := 57) C dX5_isSettable_1 (by decide +kernel) (by decide +kernel) rfl (by decide) ?_
      refine xt_iload_n C dX5_isSettable_57 rfl ?_
      refine xt_iconst (v := nI 0) C dX5_isSettable_58 rfl ?_
      refine xt_bipush (v := nI 8) C dX5_isSettable_59 (by decide) ?_
      refine xt_cS C ms_X5_isBetween lkX5_61 ct_between rfl (by decide) rfl (Nat.le_of_ble_eq_true rfl) dX5_isSettable_61 ?_
      exact xt_zret C dX5_isSettable_64 (xt_bz _) ⟨by decide, by decide⟩ (xt_qI (xt_bc ⟨fun h => Or.inr (Or.inr ⟨rfl, h⟩), fun h => by rcases h with ⟨h, -⟩ | ⟨h, -⟩ | ⟨-, h⟩ <;> first | exact h | exact absurd h (by decide)⟩))
  · refine xt_iload_n C dX5_isSettable_0 rfl ?_
    refine xt_tabOut (tgt := 65) C dX5_isSettable_1 hj (by decide) ?_
    refine xt_iconst (v := nI 0) C dX5_isSettable_65 rfl ?_
    exact xt_zret C dX5_isSettable_66 (by decide) ⟨by decide, by decide⟩ (xt_q0 (fun h => by rcases h with ⟨rfl, -⟩ | ⟨rfl, -⟩ | ⟨rfl, -⟩ <;> exact absurd hj (by decide +kernel)))
set_option maxRecDepth 20000 in
set_option maxHeartbeats 2000000 in
theorem ct_chosen {j : Nat} (hj : j < 3) : xt_Ct E l yX1_chosen cX1_chosen 2 (some Jvm.ClassFile.FieldType.int) 0 0 0 0 [.ref (E.1 1), .int (nI j)] S (xt_Eq (some (.int (S.1 1 (2 + j)))) S) := by
  refine xt_body (by decide +kernel) (xt_all rfl) (Nat.le_of_ble_eq_true rfl) (fun cx C hl9 => ?_)
  show xt_X E cx _ 0 0 0 [some (.ref (E.1 1)), some (.int (nI j))] [] S
  match j, hj with
  | 0, _ =>
    refine xt_iload_n C dX1_chosen_0 rfl ?_
    refine xt_lookup (off := 27) (tgt := 28) C dX1_chosen_1 (by decide +kernel) (by decide +kernel) (by decide) ?_
    refine xt_aload_n C dX1_chosen_28 rfl ?_
    refine xt_get (f := 2) C xt_u1 rfl (by decide) (xt_cl1 _ _) (by decide) lkX1_18 rfl dX1_chosen_29 ?_
    exact xt_iret C dX1_chosen_32 ⟨by decide, by decide⟩ ⟨rfl, rfl⟩
  | 1, _ =>
    refine xt_iload_n C dX1_chosen_0 rfl ?_
    refine xt_lookup (off := 32) (tgt := 33) C dX1_chosen_1 (by decide +kernel) (by decide +kernel) (by decide) ?_
    refine xt_aload_n C dX1_chosen_33 rfl ?_
    refine xt_get (f := 3) C xt_u1 rfl (by decide) (xt_cl1 _ _) (by decide) lkX1_21 rfl dX1_chosen_34 ?_
    exact xt_iret C dX1_chosen_37 ⟨by decide, by decide⟩ ⟨rfl, rfl⟩
  | 2, _ =>
    refine xt_iload_n C dX1_chosen_0 rfl ?_
    refine xt_lookup (off := 37) (tgt := 38) C dX1_chosen_1 (by decide +kernel) (by decide +kernel) (by decide) ?_
    refine xt_aload_n C dX1_chosen_38 rfl ?_
    refine xt_get (f := 4) C xt_u1 rfl (by decide) (xt_cl1 _ _) (by decide) lkX1_24 rfl dX1_chosen_39 ?_
    exact xt_iret C dX1_chosen_42 ⟨by decide, by decide⟩ ⟨rfl, rfl⟩
set_option maxRecDepth 20000 in
set_option maxHeartbeats 2000000 in
theorem ct_choose {j : Nat} (hj : j < 3) {v : Int32} : xt_Ct E l yX1_choose cX1_choose 3 none 0 0 0 0 [.ref (E.1 1), .int (nI j), .int v] S (xt_Eq none (xt_sN S 1 (2 + j) v)) := by
  refine xt_body (by decide +kernel) (xt_all rfl) (Nat.le_of_ble_eq_true rfl) (fun cx C hl9 => ?_)
  show xt_X E cx _ 0 0 0 [some (.ref (E.1 1)), some (.int (nI j)), some (.int v)] [] S
  match j, hj with
  | 0, _ =>
    refine xt_iload_n C dX1_choose_0 rfl ?_
    refine xt_lookup (off := 27) (tgt := 28) C dX1_choose_1 (by decide +kernel) (by decide +kernel) (by decide) ?_
    refine xt_aload_n C dX1_choose_28 rfl ?_
    refine xt_iload_n C dX1_choose_29 rfl ?_
    refine xt_put (f := 2) C xt_u1 rfl (by decide) (xt_cl1 _ _) (by decide) tyX1 tyX1_ok nmX1 lkX1_18 rfl (tyX1_ok 2 (by decide)) rfl rfl (Nat.le_of_ble_eq_true rfl) rfl dX1_choose_30 ?_
    refine xt_goto (tgt := 49) C dX1_choose_33 (by decide) ?_
    exact xt_vret C dX1_choose_49 ⟨by decide, by decide⟩ ⟨rfl, rfl⟩
  | 1, _ =>
    refine xt_iload_n C dX1_choose_0 rfl ?_
    refine xt_lookup (off := 35) (tgt := 36) C dX1_choose_1 (by decide +kernel) (by decide +kernel) (by decide) ?_
    refine xt_aload_n C dX1_choose_36 rfl ?_
    refine xt_iload_n C dX1_choose_37 rfl ?_
    refine xt_put (f := 3) C xt_u1 rfl (by decide) (xt_cl1 _ _) (by decide) tyX1 tyX1_ok nmX1 lkX1_21 rfl (tyX1_ok 3 (by decide)) rfl rfl (Nat.le_of_ble_eq_true rfl) rfl dX1_choose_38 ?_
    refine xt_goto (tgt := 49) C dX1_choose_41 (by decide) ?_
    exact xt_vret C dX1_choose_49 ⟨by decide, by decide⟩ ⟨rfl, rfl⟩
  | 2, _ =>
    refine xt_iload_n C dX1_choose_0 rfl ?_
    refine xt_lookup (off := 43) (tgt := 44) C dX1_choose_1 (by decide +kernel) (by decide +kernel) (by decide) ?_
    refine xt_aload_n C dX1_choose_44 rfl ?_
    refine xt_iload_n C dX1_choose_45 rfl ?_
    refine xt_put (f := 4) C xt_u1 rfl (by decide) (xt_cl1 _ _) (by decide) tyX1 tyX1_ok nmX1 lkX1_24 rfl (tyX1_ok 4 (by decide)) rfl rfl (Nat.le_of_ble_eq_true rfl) rfl dX1_choose_46 ?_
    exact xt_vret C dX1_choose_49 ⟨by decide, by decide⟩ ⟨rfl, rfl⟩
set_option maxRecDepth 20000 in
set_option maxHeartbeats 2000000 in
theorem ct_sum {c r sd lv bo : Nat} (hP : xt_Pic S 1 c r sd lv bo) {a : Nat} (hi : a < xt_NC) (ha : xt_ar E 0 a 256) : xt_Ct E l yX1_total cX1_total 4 (some Jvm.ClassFile.FieldType.int) 1 21 0 0 [.ref (E.1 1), .ref (E.1 a)] S (xt_Eq (some (.int (xt_it (fun i s => s + S.2.1 a i) (c * r) 0))) S) := by
  refine xt_body (by decide +kernel) (xt_all rfl) (Nat.le_of_ble_eq_true rfl) (fun cx C hl9 => ?_)
  show xt_X E cx _ 0 0 0 [some (.ref (E.1 1)), some (.ref (E.1 a)), none, none] [] S
  have hP9 := hP
  obtain ⟨hc, hr, hs, hv, hb, b1, b2, b3, b4, b5, b6, b7⟩ := hP
  have hcr := xt_cr b2 b4
  have loop : ∀ (d i : Nat), i ≤ (c * r) →  (c * r) + 1 ≤ i + d → xt_X E cx (xt_ZM E cx 0 0 (xt_Eq (some (.int (xt_it (fun i s => s + S.2.1 a i) (c * r) 0))) S)) 0 0 4 [some (.ref (E.1 1)), some (.ref (E.1 a)), some (.int (xt_it (fun i s => s + S.2.1 a i) i 0)), some (.int (nI i))] [] S := by
    intro d
    induction d with
    | zero => intro i  h0i  h1i; exact absurd h1i (by omega)
    | succ d ih =>
      intro i  h0i  h1i
      refine xt_iload_n C dX1_total_4 rfl ?_
      refine xt_aload_n C dX1_total_5 rfl ?_
      refine xt_get (f := 0) C xt_u1 rfl (by decide) (xt_cl1 _ _) (by decide) lkX1_9 (xt_vI hc) dX1_total_6 ?_
      refine xt_aload_n C dX1_total_9 rfl ?_
      refine xt_get (f := 1) C xt_u1 rfl (by decide) (xt_cl1 _ _) (by decide) lkX1_15 (xt_vI hr) dX1_total_10 ?_
      refine xt_imulN C dX1_total_13 ?_
      refine xt_icmp_geN (tgt := 31) C dX1_total_14 (by decide) (by omega) (by omega) (fun c14 => ?_) (fun c14 => ?_)
      · refine xt_iload_n C dX1_total_31 rfl ?_
        exact xt_iret C dX1_total_32 ⟨by decide, by decide⟩ (xt_qI (by rw [show i = c * r by omega]))
      · refine xt_iload_n C dX1_total_17 rfl ?_
        refine xt_aload_n C dX1_total_18 rfl ?_
        refine xt_iload_n C dX1_total_19 rfl ?_
        refine xt_cSN C ms_X5_at lkX1_34 (ct_at hi ha (by decide) (by omega) rfl) rfl (by decide) rfl (Nat.le_of_ble_eq_true rfl) dX1_total_20 ?_
        refine xt_iadd C dX1_total_23 ?_
        refine xt_istore_n (lo' := [_, _, _, _]) C dX1_total_24 (Nat.le_of_ble_eq_true rfl) rfl rfl ?_
        refine xt_iincN (z := 1) (lo' := [_, _, _, _]) C dX1_total_25 rfl rfl rfl ?_
        refine xt_goto (tgt := 4) C dX1_total_28 (by decide) ?_
        exact ih (i + 1) (by omega) (by omega)
  refine xt_iconst (v := nI 0) C dX1_total_0 rfl ?_
  refine xt_istore_n (lo' := [_, _, _, _]) C dX1_total_1 (Nat.le_of_ble_eq_true rfl) rfl rfl ?_
  refine xt_iconst (v := nI 0) C dX1_total_2 rfl ?_
  refine xt_istore_n (lo' := [_, _, _, _]) C dX1_total_3 (Nat.le_of_ble_eq_true rfl) rfl rfl ?_
  exact loop (c * r + 1) 0 (by omega) (by omega)
set_option maxRecDepth 20000 in
set_option maxHeartbeats 2000000 in
theorem ct_totalOf {c r sd lv bo : Nat} (hP : xt_Pic S 1 c r sd lv bo) {a : Nat} (hi : a < xt_NC) (ha : xt_ar E 0 a 256) {lf tp w h : Nat} (hw : lf + w ≤ c) (hh : tp + h ≤ r) : xt_Ct E l yX1_totalOf cX1_totalOf 9 (some Jvm.ClassFile.FieldType.int) 1 22 0 0 [.ref (E.1 1), .ref (E.1 a), .int (nI lf), .int (nI tp), .int (nI (lf + w)), .int (nI (tp + h))] S (xt_Eq (some (.int (xt_sum2 (S.2.1 a) c lf tp w h))) S) := by
  refine xt_body (by decide +kernel) (xt_all rfl) (Nat.le_of_ble_eq_true rfl) (fun cx C hl9 => ?_)
  show xt_X E cx _ 0 0 0 [some (.ref (E.1 1)), some (.ref (E.1 a)), some (.int (nI lf)), some (.int (nI tp)), some (.int (nI (lf + w))), some (.int (nI (tp + h))), none, none, none] [] S
  have hP9 := hP
  obtain ⟨hc, hr, hs, hv, hb, b1, b2, b3, b4, b5, b6, b7⟩ := hP
  have out1 : ∀ (d y : Nat), y ≤ h →  h + 1 ≤ y + d → xt_X E cx (xt_ZM E cx 0 0 (xt_Eq (some (.int (xt_sum2 (S.2.1 a) c lf tp w h))) S)) 0 0 6 [some (.ref (E.1 1)), some (.ref (E.1 a)), some (.int (nI lf)), some (.int (nI tp)), some (.int (nI (lf + w))), some (.int (nI (tp + h))), some (.int (xt_it (fun y s => xt_it (fun x s => s + S.2.1 a ((tp + y) * c + (lf + x))) w s) y 0)), some (.int (nI (tp + y))), none] [] S := by
    intro d
    induction d with
    | zero => intro y  h0y  h1y; exact absurd h1y (by omega)
    | succ d ih =>
      intro y  h0y  h1y
      refine xt_iload C dX1_totalOf_6 rfl ?_
      refine xt_iload C dX1_totalOf_8 rfl ?_
      refine xt_icmp_geN (tgt := 52) C dX1_totalOf_10 (by decide) (by omega) (by omega) (fun c10 => ?_) (fun c10 => ?_)
      · refine xt_iload C dX1_totalOf_52 rfl ?_
        exact xt_iret C dX1_totalOf_54 ⟨by decide, by decide⟩ (xt_qI (by rw [show y = h by omega]; rfl))
      · refine xt_iload_n C dX1_totalOf_13 rfl ?_
        refine xt_istore (lo' := [_, _, _, _, _, _, _, _, _]) C dX1_totalOf_14 (Nat.le_of_ble_eq_true rfl) rfl rfl ?_
        have in2 : ∀ (d2 x : Nat), x ≤ w →  w + 1 ≤ x + d2 → xt_X E cx (xt_ZM E cx 0 0 (xt_Eq (some (.int (xt_sum2 (S.2.1 a) c lf tp w h))) S)) 0 0 16 [some (.ref (E.1 1)), some (.ref (E.1 a)), some (.int (nI lf)), some (.int (nI tp)), some (.int (nI (lf + w))), some (.int (nI (tp + h))), some (.int (xt_it (fun x s => s + S.2.1 a ((tp + y) * c + (lf + x))) x (xt_it (fun y s => xt_it (fun x s => s + S.2.1 a ((tp + y) * c + (lf + x))) w s) y 0))), some (.int (nI (tp + y))), some (.int (nI (lf + x)))] [] S := by
          intro d2
          induction d2 with
          | zero => intro x  h0x  h1x; exact absurd h1x (by omega)
          | succ d2 ih2 =>
            intro x  h0x  h1x
            refine xt_iload C dX1_totalOf_16 rfl ?_
            refine xt_iload C dX1_totalOf_18 rfl ?_
            refine xt_icmp_geN (tgt := 46) C dX1_totalOf_20 (by decide) (by omega) (by omega) (fun c20 => ?_) (fun c20 => ?_)
            · refine xt_iincN (z := 1) (lo' := [_, _, _, _, _, _, _, _, _]) C dX1_totalOf_46 rfl rfl rfl ?_
              refine xt_goto (tgt := 6) C dX1_totalOf_49 (by decide) ?_
              have hx9 : x = w := by omega
              subst hx9
              exact xt_fg (by repeat' constructor) (ih (y + 1) (by omega) (by omega))
            · refine xt_iload C dX1_totalOf_23 rfl ?_
              refine xt_aload_n C dX1_totalOf_25 rfl ?_
              refine xt_aload_n C dX1_totalOf_26 rfl ?_
              refine xt_iload C dX1_totalOf_27 rfl ?_
              refine xt_iload C dX1_totalOf_29 rfl ?_
              refine xt_cV C mv_X1_indexOf lkX1_46 (ct_indexOf (by exact hP9)) rfl (by decide) (xt_cl1 _ _) rfl (by decide) rfl (Nat.le_of_ble_eq_true rfl) dX1_totalOf_31 ?_
              refine xt_cSN C ms_X5_at lkX1_34 (ct_at hi ha (by decide) (xt_ix (c := c) (r := r) (by omega) (by omega) b2 b4).1 rfl) rfl (by decide) rfl (Nat.le_of_ble_eq_true rfl) dX1_totalOf_34 ?_
              refine xt_iadd C dX1_totalOf_37 ?_
              refine xt_istore (lo' := [_, _, _, _, _, _, _, _, _]) C dX1_totalOf_38 (Nat.le_of_ble_eq_true rfl) rfl rfl ?_
              refine xt_iincN (z := 1) (lo' := [_, _, _, _, _, _, _, _, _]) C dX1_totalOf_40 rfl rfl rfl ?_
              refine xt_goto (tgt := 16) C dX1_totalOf_43 (by decide) ?_
              exact ih2 (x + 1) (by omega) (by omega)
        exact in2 (w + 1) 0 (by omega) (by omega)
  refine xt_iconst (v := nI 0) C dX1_totalOf_0 rfl ?_
  refine xt_istore (lo' := [_, _, _, _, _, _, _, _, _]) C dX1_totalOf_1 (Nat.le_of_ble_eq_true rfl) rfl rfl ?_
  refine xt_iload_n C dX1_totalOf_3 rfl ?_
  refine xt_istore (lo' := [_, _, _, _, _, _, _, _, _]) C dX1_totalOf_4 (Nat.le_of_ble_eq_true rfl) rfl rfl ?_
  exact out1 (h + 1) 0 (by omega) (by omega)
set_option maxRecDepth 20000 in
set_option maxHeartbeats 2000000 in
theorem ct_totalIn {c r sd lv bo : Nat} (hP : xt_Pic S 1 c r sd lv bo) {a : Nat} (hi : a < xt_NC) (ha : xt_ar E 0 a 256) {t : Nat} (ht : t < xt_nt c r sd) : xt_Ct E l yX1_totalIn cX1_totalIn 5 (some Jvm.ClassFile.FieldType.int) 4 84 0 0 [.ref (E.1 1), .ref (E.1 a), .int (nI t)] S (xt_Eq (some (.int (xt_sum2 (S.2.1 a) c (xt_gl c sd t) (xt_gt c sd t) (xt_gw c sd t) (xt_gh c r sd t)))) S) := by
  refine xt_body (by decide +kernel) (xt_all rfl) (Nat.le_of_ble_eq_true rfl) (fun cx C hl9 => ?_)
  show xt_X E cx _ 0 0 0 [some (.ref (E.1 1)), some (.ref (E.1 a)), some (.int (nI t)), none, none] [] S
  have hP9 := hP
  obtain ⟨hc, hr, hs, hv, hb, b1, b2, b3, b4, b5, b6, b7⟩ := hP
  have hn := xt_nt_b ⟨b1, b2⟩ ⟨b3, b4⟩ b5
  have hT := xt_tile_b ⟨b1, b2⟩ ⟨b3, b4⟩ b5 ht
  refine xt_aload_n C dX1_totalIn_0 rfl ?_
  refine xt_iload_n C dX1_totalIn_1 rfl ?_
  refine xt_cV C mv_X1_leftOf lkX1_60 (ct_leftOf (by exact hP9) ht) rfl (by decide) (xt_cl1 _ _) rfl (by decide) rfl (Nat.le_of_ble_eq_true rfl) dX1_totalIn_2 ?_
  refine xt_istore_n (lo' := [_, _, _, _, _]) C dX1_totalIn_5 (Nat.le_of_ble_eq_true rfl) rfl rfl ?_
  refine xt_aload_n C dX1_totalIn_6 rfl ?_
  refine xt_iload_n C dX1_totalIn_7 rfl ?_
  refine xt_cV C mv_X1_topOf lkX1_69 (ct_topOf (by exact hP9) ht) rfl (by decide) (xt_cl1 _ _) rfl (by decide) rfl (Nat.le_of_ble_eq_true rfl) dX1_totalIn_8 ?_
  refine xt_istore (lo' := [_, _, _, _, _]) C dX1_totalIn_11 (Nat.le_of_ble_eq_true rfl) rfl rfl ?_
  refine xt_aload_n C dX1_totalIn_13 rfl ?_
  refine xt_aload_n C dX1_totalIn_14 rfl ?_
  refine xt_iload_n C dX1_totalIn_15 rfl ?_
  refine xt_iload C dX1_totalIn_16 rfl ?_
  refine xt_iload_n C dX1_totalIn_18 rfl ?_
  refine xt_aload_n C dX1_totalIn_19 rfl ?_
  refine xt_iload_n C dX1_totalIn_20 rfl ?_
  refine xt_cV C mv_X1_widthOf lkX1_72 (ct_widthOf (by exact hP9) ht) rfl (by decide) (xt_cl1 _ _) rfl (by decide) rfl (Nat.le_of_ble_eq_true rfl) dX1_totalIn_21 ?_
  refine xt_iaddN C dX1_totalIn_24 ?_
  refine xt_iload C dX1_totalIn_25 rfl ?_
  refine xt_aload_n C dX1_totalIn_27 rfl ?_
  refine xt_iload_n C dX1_totalIn_28 rfl ?_
  refine xt_cV C mv_X1_heightOf lkX1_75 (ct_heightOf (by exact hP9) ht) rfl (by decide) (xt_cl1 _ _) rfl (by decide) rfl (Nat.le_of_ble_eq_true rfl) dX1_totalIn_29 ?_
  refine xt_iaddN C dX1_totalIn_32 ?_
  refine xt_cV C mv_X1_totalOf lkX1_78 (ct_totalOf (by exact hP9) hi ha (by omega) (by omega)) rfl (by decide) (xt_cl1 _ _) rfl (by decide) rfl (Nat.le_of_ble_eq_true rfl) dX1_totalIn_33 ?_
  exact xt_iret C dX1_totalIn_36 ⟨by decide, by decide⟩ ⟨rfl, rfl⟩
end XC3
