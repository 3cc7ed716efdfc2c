/-! THE MODEL: the text's small readers -/
section XM20
variable {E : xt_Ev} {l : Launch} {S : xt_St}
theorem xt_sN_q {T : xt_St} {i f : Nat} {v : Int32} (h : T.1 i f = v) : xt_sN T i f v = T := by
  unfold xt_sN
  have e : (fun i' f' => if i' = i ∧ f' = f then v else T.1 i' f') = T.1 := funext fun a => funext fun b => by
    by_cases z : a = i ∧ b = f
    · rw [if_pos z, z.1, z.2, h]
    · rw [if_neg z]
  first
  | rw [e]
  | (simp only [e])
theorem xt_UU {p q z : Int32} {g : Nat → Int32} {i : Nat} : xt_sA (xt_sN (xt_sA (xt_sN S 49 9 p) 66 g) 49 9 q) 66 (upd ((xt_sN (xt_sA (xt_sN S 49 9 p) 66 g) 49 9 q).2.1 66) i z) = xt_sA (xt_sN S 49 9 q) 66 (upd g i z) := by
  rw [show (xt_sN (xt_sA (xt_sN S 49 9 p) 66 g) 49 9 q).2.1 66 = g from xt_sA_s]
  rw [show xt_sN (xt_sA (xt_sN S 49 9 p) 66 g) 49 9 q = xt_sA (xt_sN (xt_sN S 49 9 p) 49 9 q) 66 g from rfl, xt_s2_s, xt_sA_sA]
def xt_pf9 (k : Nat) (x : Int32) : Prop := if k % 2 = 0 then nI 97 ≤ x ∧ x ≤ nI (97 + 15) else nI 65 ≤ x ∧ x ≤ nI (65 + 15)
def xt_pb9 (k : Nat) : Int32 := if k % 2 = 0 then nI 97 else nI 65
theorem xt_sg_in {a : Nat → Int32} {n j m : Nat} (hm : m < 2 ^ 31) (h : nI m ≤ xt_sg a n j) : j < n := Nat.lt_of_not_le (fun z => by
  rw [xt_sg0 z] at h
  exact absurd (Int32.lt_of_lt_of_le (show (-1 : Int32) < 0 by decide) (nI_pos' hm)) (Int32.not_lt.mpr h))
set_option maxRecDepth 20000 in
set_option maxHeartbeats 2000000 in
theorem ct_here {n b : Nat} (hn : S.1 49 8 = nI n) (h60 : n ≤ 60) (hb : S.1 49 9 = nI b) (hb9 : b < 1000000) : xt_Ct E l yX6_here cX6_here 1 (some Jvm.ClassFile.FieldType.int) 0 0 0 0 [.ref (E.1 49)] S (xt_Eq (some (.int (xt_sg (S.2.1 54) n b))) S) := by
  refine xt_body (by decide +kernel) (xt_all rfl) (Nat.le_of_ble_eq_true rfl) (fun cx C hl9 => ?_)
  show xt_X E cx _ 0 0 0 [some (.ref (E.1 49))] [] S
  refine xt_aload_n C dX6_here_0 rfl ?_
  refine xt_get (f := 9) C xt_u6 rfl (by decide) (xt_cl49 _ _) (by decide) lkX6_223 (xt_vI (by exact hb)) dX6_here_1 ?_
  refine xt_aload_n C dX6_here_4 rfl ?_
  refine xt_get (f := 8) C xt_u6 rfl (by decide) (xt_cl49 _ _) (by decide) lkX6_155 (xt_vI (by exact hn)) dX6_here_5 ?_
  refine xt_icmp_geN (tgt := 23) C dX6_here_8 (by decide) (by omega) (by omega) (fun c8 => ?_) (fun c8 => ?_)
  · refine xt_iconst (v := -1) C dX6_here_23 rfl ?_
    refine xt_iret C dX6_here_24 ⟨by decide, by decide⟩ ?_
    first
    | exact ⟨rfl, rfl⟩
    | exact ⟨by rw [xt_sg0 (by omega)], rfl⟩
  · refine xt_aload_n C dX6_here_11 rfl ?_
    refine xt_get (f := 7) C xt_u6 rfl (by decide) (xt_cl49 _ _) (by decide) lkX6_22 rfl dX6_here_12 ?_
    refine xt_aload_n C dX6_here_15 rfl ?_
    refine xt_get (f := 9) C xt_u6 rfl (by decide) (xt_cl49 _ _) (by decide) lkX6_223 (xt_vI (by exact hb)) dX6_here_16 ?_
    refine xt_ialdN C (by decide) (xt_cl54 _) (by omega) (by decide) (xt_sg1 c8).symm dX6_here_19 ?_
    refine xt_goto (tgt := 24) C dX6_here_20 (by decide) ?_
    refine xt_iret C dX6_here_24 ⟨by decide, by decide⟩ ?_
    first
    | exact ⟨rfl, rfl⟩
    | exact ⟨by rw [xt_sg0 (by omega)], rfl⟩
set_option maxRecDepth 20000 in
set_option maxHeartbeats 2000000 in
theorem ct_tone1 {n b : Nat} (hn : S.1 49 8 = nI n) (h60 : n ≤ 60) (hb : S.1 49 9 = nI b) (hb9 : b < 1000) {x : Int32} (hx : (xt_sg (S.2.1 54) n b) = x) : xt_Ct E l yX6_takesOne cX6_takesOne 2 (some Jvm.ClassFile.FieldType.boolean) 1 20 0 0 [.ref (E.1 49), .int x] S (xt_Eq (some (.int (nI 1))) (xt_sN S 49 9 (nI (b + 1)))) := by
  refine xt_body (by decide +kernel) (xt_all rfl) (Nat.le_of_ble_eq_true rfl) (fun cx C hl9 => ?_)
  show xt_X E cx _ 0 0 0 [some (.ref (E.1 49)), some (.int x)] [] S
  refine xt_aload_n C dX6_takesOne_0 rfl ?_
  refine xt_cV C mv_X6_here lkX6_226 (ct_here (by exact hn) h60 (by exact hb) (by omega)) rfl (by decide) (xt_cl49 _ _) rfl (by decide) rfl (Nat.le_of_ble_eq_true rfl) dX6_takesOne_1 ?_
  refine xt_iload_n C dX6_takesOne_4 rfl ?_
  refine xt_icmp_eq (tgt := 10) C dX6_takesOne_5 (by decide) (fun c5 => ?_) (fun c5 => ?_)
  · refine xt_aload_n C dX6_takesOne_10 rfl ?_
    refine xt_dup C dX6_takesOne_11 rfl ?_
    refine xt_get (f := 9) C xt_u6 rfl (by decide) (xt_cl49 _ _) (by decide) lkX6_223 (xt_vI (by exact hb)) dX6_takesOne_12 ?_
    refine xt_iconst (v := nI 1) C dX6_takesOne_15 rfl ?_
    refine xt_iaddN C dX6_takesOne_16 ?_
    refine xt_put (f := 9) C xt_u6 rfl (by decide) (xt_cl49 _ _) (by decide) tyX6 tyX6_ok nmX6 lkX6_223 rfl (tyX6_ok 9 (by decide)) rfl rfl (Nat.le_of_ble_eq_true rfl) rfl dX6_takesOne_17 ?_
    refine xt_iconst (v := nI 1) C dX6_takesOne_20 rfl ?_
    exact xt_zret C dX6_takesOne_21 (by decide) ⟨by decide, by decide⟩ ⟨rfl, rfl⟩
  · exact absurd hx c5
set_option maxRecDepth 20000 in
set_option maxHeartbeats 2000000 in
theorem ct_tone0 {n b : Nat} (hn : S.1 49 8 = nI n) (h60 : n ≤ 60) (hb : S.1 49 9 = nI b) (hb9 : b < 1000) {x : Int32} (hx : ¬ (xt_sg (S.2.1 54) n b) = x) : xt_Ct E l yX6_takesOne cX6_takesOne 2 (some Jvm.ClassFile.FieldType.boolean) 1 20 0 0 [.ref (E.1 49), .int x] S (xt_Eq (some (.int (nI 0))) S) := by
  refine xt_body (by decide +kernel) (xt_all rfl) (Nat.le_of_ble_eq_true rfl) (fun cx C hl9 => ?_)
  show xt_X E cx _ 0 0 0 [some (.ref (E.1 49)), some (.int x)] [] S
  refine xt_aload_n C dX6_takesOne_0 rfl ?_
  refine xt_cV C mv_X6_here lkX6_226 (ct_here (by exact hn) h60 (by exact hb) (by omega)) rfl (by decide) (xt_cl49 _ _) rfl (by decide) rfl (Nat.le_of_ble_eq_true rfl) dX6_takesOne_1 ?_
  refine xt_iload_n C dX6_takesOne_4 rfl ?_
  refine xt_icmp_eq (tgt := 10) C dX6_takesOne_5 (by decide) (fun c5 => ?_) (fun c5 => ?_)
  · exact absurd c5 hx
  · refine xt_iconst (v := nI 0) C dX6_takesOne_8 rfl ?_
    exact xt_zret C dX6_takesOne_9 (by decide) ⟨by decide, by decide⟩ ⟨rfl, rfl⟩
theorem xt_hx_r {x : Int32} (h : (nI 48 ≤ x ∧ x ≤ nI 57) ∨ (nI 97 ≤ x ∧ x ≤ nI 102)) : ∃ m, m < 16 ∧ xt_hx x = nI m := by
  have hx : ∃ j, x = nI j ∧ ((48 ≤ j ∧ j ≤ 57) ∨ (97 ≤ j ∧ j ≤ 102)) := by
    rcases h with ⟨a, b⟩ | ⟨a, b⟩
    · obtain ⟨j, hj, rfl⟩ := (xt_btw (m := 57) (by decide)).mp ⟨Int32.le_trans (show nI 0 ≤ nI 48 by decide) a, b⟩
      exact ⟨j, rfl, Or.inl ⟨(nI_leI (by decide) (by omega)).mp a, hj⟩⟩
    · obtain ⟨j, hj, rfl⟩ := (xt_btw (m := 102) (by decide)).mp ⟨Int32.le_trans (show nI 0 ≤ nI 97 by decide) a, b⟩
      exact ⟨j, rfl, Or.inr ⟨(nI_leI (by decide) (by omega)).mp a, hj⟩⟩
  obtain ⟨j, rfl, hj⟩ := hx
  have h9 := co_dec (N := 103) (P := fun j => ((48 ≤ j ∧ j ≤ 57) ∨ (97 ≤ j ∧ j ≤ 102)) → xt_hx (nI j) = nI (if j ≤ 57 then j - 48 else j - 87)) (by decide +kernel) (show j < 103 by omega)
  exact ⟨_, by split <;> omega, h9 hj⟩
set_option maxRecDepth 20000 in
set_option maxHeartbeats 2000000 in
theorem ct_hex1 {n b : Nat} (hn : S.1 49 8 = nI n) (h60 : n ≤ 60) (hb : S.1 49 9 = nI b) (hb9 : b < 1000) (hx : ((nI 48 ≤ (xt_sg (S.2.1 54) n b) ∧ (xt_sg (S.2.1 54) n b) ≤ nI 57) ∨ (nI 97 ≤ (xt_sg (S.2.1 54) n b) ∧ (xt_sg (S.2.1 54) n b) ≤ nI 102))) : xt_Ct E l yX6_hex cX6_hex 3 (some Jvm.ClassFile.FieldType.int) 1 22 0 0 [.ref (E.1 49)] S (xt_Eq (some (.int (xt_hx (xt_sg (S.2.1 54) n b)))) (xt_sN S 49 9 (nI (b + 1)))) := by
  refine xt_body (by decide +kernel) (xt_all rfl) (Nat.le_of_ble_eq_true rfl) (fun cx C hl9 => ?_)
  show xt_X E cx _ 0 0 0 [some (.ref (E.1 49)), none, none] [] S
  obtain ⟨m, hm16, hm⟩ := xt_hx_r hx
  refine xt_aload_n C dX6_hex_0 rfl ?_
  refine xt_cV C mv_X6_here lkX6_226 (ct_here (by exact hn) h60 (by exact hb) (by omega)) rfl (by decide) (xt_cl49 _ _) rfl (by decide) rfl (Nat.le_of_ble_eq_true rfl) dX6_hex_1 ?_
  refine xt_istore_n (lo' := [_, _, _]) C dX6_hex_4 (Nat.le_of_ble_eq_true rfl) rfl rfl ?_
  refine xt_iload_n C dX6_hex_5 rfl ?_
  refine xt_bipush (v := nI 48) C dX6_hex_6 (by decide) ?_
  refine xt_bipush (v := nI 57) C dX6_hex_8 (by decide) ?_
  refine xt_cS C ms_X6_in lkX6_81 ct_in rfl (by decide) rfl (Nat.le_of_ble_eq_true rfl) dX6_hex_10 ?_
  refine xt_if_eqB (tgt := 23) C dX6_hex_13 (by decide) (fun c13 => ?_) (fun c13 => ?_)
  · refine xt_iload_n C dX6_hex_23 rfl ?_
    refine xt_bipush (v := nI 97) C dX6_hex_24 (by decide) ?_
    refine xt_bipush (v := nI 102) C dX6_hex_26 (by decide) ?_
    refine xt_cS C ms_X6_in lkX6_81 ct_in rfl (by decide) rfl (Nat.le_of_ble_eq_true rfl) dX6_hex_28 ?_
    refine xt_if_eqB (tgt := 44) C dX6_hex_31 (by decide) (fun c31 => ?_) (fun c31 => ?_)
    · exact absurd (hx.resolve_left c13) c31
    · have e9 : xt_hx (xt_sg (S.2.1 54) n b) = (xt_sg (S.2.1 54) n b) - nI 97 + nI 10 := if_pos (Int32.lt_of_lt_of_le (show nI 57 < nI 97 by decide) c31.1)
      rw [e9] at hm
      refine xt_iload_n C dX6_hex_34 rfl ?_
      refine xt_bipush (v := nI 97) C dX6_hex_35 (by decide) ?_
      refine xt_isub C dX6_hex_37 ?_
      refine xt_bipush (v := nI 10) C dX6_hex_38 (by decide) ?_
      refine xt_iadd C dX6_hex_40 ?_
      refine xt_goto (tgt := 45) C dX6_hex_41 (by decide) ?_
      refine xt_istore_n (lo' := [_, _, _]) C dX6_hex_45 (Nat.le_of_ble_eq_true rfl) rfl rfl ?_
      refine xt_iload_n C dX6_hex_46 rfl ?_
      refine xt_if_lt (tgt := 60) C dX6_hex_47 (by decide) (fun c47 => ?_) (fun c47 => ?_)
      · exact absurd c47 (by rw [hm]; exact nI_pos (by omega))
      · refine xt_aload_n C dX6_hex_50 rfl ?_
        refine xt_dup C dX6_hex_51 rfl ?_
        refine xt_get (f := 9) C xt_u6 rfl (by decide) (xt_cl49 _ _) (by decide) lkX6_223 (xt_vI (by exact hb)) dX6_hex_52 ?_
        refine xt_iconst (v := nI 1) C dX6_hex_55 rfl ?_
        refine xt_iaddN C dX6_hex_56 ?_
        refine xt_put (f := 9) C xt_u6 rfl (by decide) (xt_cl49 _ _) (by decide) tyX6 tyX6_ok nmX6 lkX6_223 rfl (tyX6_ok 9 (by decide)) rfl rfl (Nat.le_of_ble_eq_true rfl) rfl dX6_hex_57 ?_
        refine xt_iload_n C dX6_hex_60 rfl ?_
        exact xt_iret C dX6_hex_61 ⟨by decide, by decide⟩ ⟨by rw [e9], rfl⟩
  · have e9 : xt_hx (xt_sg (S.2.1 54) n b) = (xt_sg (S.2.1 54) n b) - nI 48 := if_neg (Int32.not_lt.mpr c13.2)
    rw [e9] at hm
    refine xt_iload_n C dX6_hex_16 rfl ?_
    refine xt_bipush (v := nI 48) C dX6_hex_17 (by decide) ?_
    refine xt_isub C dX6_hex_19 ?_
    refine xt_goto (tgt := 45) C dX6_hex_20 (by decide) ?_
    refine xt_istore_n (lo' := [_, _, _]) C dX6_hex_45 (Nat.le_of_ble_eq_true rfl) rfl rfl ?_
    refine xt_iload_n C dX6_hex_46 rfl ?_
    refine xt_if_lt (tgt := 60) C dX6_hex_47 (by decide) (fun c47 => ?_) (fun c47 => ?_)
    · exact absurd c47 (by rw [hm]; exact nI_pos (by omega))
    · refine xt_aload_n C dX6_hex_50 rfl ?_
      refine xt_dup C dX6_hex_51 rfl ?_
      refine xt_get (f := 9) C xt_u6 rfl (by decide) (xt_cl49 _ _) (by decide) lkX6_223 (xt_vI (by exact hb)) dX6_hex_52 ?_
      refine xt_iconst (v := nI 1) C dX6_hex_55 rfl ?_
      refine xt_iaddN C dX6_hex_56 ?_
      refine xt_put (f := 9) C xt_u6 rfl (by decide) (xt_cl49 _ _) (by decide) tyX6 tyX6_ok nmX6 lkX6_223 rfl (tyX6_ok 9 (by decide)) rfl rfl (Nat.le_of_ble_eq_true rfl) rfl dX6_hex_57 ?_
      refine xt_iload_n C dX6_hex_60 rfl ?_
      exact xt_iret C dX6_hex_61 ⟨by decide, by decide⟩ ⟨by rw [e9], rfl⟩
set_option maxRecDepth 20000 in
set_option maxHeartbeats 2000000 in
theorem ct_hex0 {n b : Nat} (hn : S.1 49 8 = nI n) (h60 : n ≤ 60) (hb : S.1 49 9 = nI b) (hb9 : b < 1000) (hx : ¬ ((nI 48 ≤ (xt_sg (S.2.1 54) n b) ∧ (xt_sg (S.2.1 54) n b) ≤ nI 57) ∨ (nI 97 ≤ (xt_sg (S.2.1 54) n b) ∧ (xt_sg (S.2.1 54) n b) ≤ nI 102))) : xt_Ct E l yX6_hex cX6_hex 3 (some Jvm.ClassFile.FieldType.int) 1 22 0 0 [.ref (E.1 49)] S (xt_Eq (some (.int (-1))) S) := by
  refine xt_body (by decide +kernel) (xt_all rfl) (Nat.le_of_ble_eq_true rfl) (fun cx C hl9 => ?_)
  show xt_X E cx _ 0 0 0 [some (.ref (E.1 49)), none, none] [] S
  refine xt_aload_n C dX6_hex_0 rfl ?_
  refine xt_cV C mv_X6_here lkX6_226 (ct_here (by exact hn) h60 (by exact hb) (by omega)) rfl (by decide) (xt_cl49 _ _) rfl (by decide) rfl (Nat.le_of_ble_eq_true rfl) dX6_hex_1 ?_
  refine xt_istore_n (lo' := [_, _, _]) C dX6_hex_4 (Nat.le_of_ble_eq_true rfl) rfl rfl ?_
  refine xt_iload_n C dX6_hex_5 rfl ?_
  refine xt_bipush (v := nI 48) C dX6_hex_6 (by decide) ?_
  refine xt_bipush (v := nI 57) C dX6_hex_8 (by decide) ?_
  refine xt_cS C ms_X6_in lkX6_81 ct_in rfl (by decide) rfl (Nat.le_of_ble_eq_true rfl) dX6_hex_10 ?_
  refine xt_if_eqB (tgt := 23) C dX6_hex_13 (by decide) (fun c13 => ?_) (fun c13 => ?_)
  · refine xt_iload_n C dX6_hex_23 rfl ?_
    refine xt_bipush (v := nI 97) C dX6_hex_24 (by decide) ?_
    refine xt_bipush (v := nI 102) C dX6_hex_26 (by decide) ?_
    refine xt_cS C ms_X6_in lkX6_81 ct_in rfl (by decide) rfl (Nat.le_of_ble_eq_true rfl) dX6_hex_28 ?_
    refine xt_if_eqB (tgt := 44) C dX6_hex_31 (by decide) (fun c31 => ?_) (fun c31 => ?_)
    · refine xt_iconst (v := -1) C dX6_hex_44 rfl ?_
      refine xt_istore_n (lo' := [_, _, _]) C dX6_hex_45 (Nat.le_of_ble_eq_true rfl) rfl rfl ?_
      refine xt_iload_n C dX6_hex_46 rfl ?_
      refine xt_if_lt (tgt := 60) C dX6_hex_47 (by decide) (fun c47 => ?_) (fun c47 => ?_)
      · refine xt_iload_n C dX6_hex_60 rfl ?_
        exact xt_iret C dX6_hex_61 ⟨by decide, by decide⟩ ⟨rfl, rfl⟩
      · exact absurd (by decide) c47
    · exact absurd (Or.inr c31) hx
  · exact absurd (Or.inl c13) hx
set_option maxRecDepth 20000 in
set_option maxHeartbeats 2000000 in
theorem ct_places1 {n b : Nat} (hn : S.1 49 8 = nI n) (h60 : n ≤ 60) (hb : S.1 49 9 = nI b) (hb9 : b < 1000) (h : ∀ k, k < 4 → xt_pf9 k (xt_sg (S.2.1 54) n (b + k))) : xt_Ct E l yX6_places cX6_places 3 (some Jvm.ClassFile.FieldType.boolean) 1 22 0 0 [.ref (E.1 49)] S (xt_Ep (some (.int (nI 1))) (fun S9 => ∃ g, S9 = xt_sA (xt_sN S 49 9 (nI (b + 4))) 66 g ∧ ∀ j, j < 4 → g j = xt_sg (S.2.1 54) n (b + j) - xt_pb9 j)) := by
  refine xt_body (by decide +kernel) (xt_all rfl) (Nat.le_of_ble_eq_true rfl) (fun cx C hl9 => ?_)
  show xt_X E cx _ 0 0 0 [some (.ref (E.1 49)), none, none] [] S
  have loop : ∀ (d i : Nat) (g : Nat → Int32), i ≤ 4 → (∀ j, j < i → g j = xt_sg (S.2.1 54) n (b + j) - xt_pb9 j) → 4 + 1 ≤ i + d → xt_X E cx (xt_ZM E cx 0 0 (xt_Ep (some (.int (nI 1))) (fun S9 => ∃ g, S9 = xt_sA (xt_sN S 49 9 (nI (b + 4))) 66 g ∧ ∀ j, j < 4 → g j = xt_sg (S.2.1 54) n (b + j) - xt_pb9 j))) 0 0 2 [some (.ref (E.1 49)), some (.int (nI i)), none] [] (xt_sA (xt_sN S 49 9 (nI (b + i))) 66 g) := by
    intro d
    induction d with
    | zero => intro i g h0i hg h1i; exact absurd h1i (by omega)
    | succ d ih =>
      intro i g h0i hg h1i
      have h8u : (xt_sA (xt_sN S 49 9 (nI (b + i))) 66 g).1 49 8 = nI n := by
        show (xt_sN S 49 9 (nI (b + i))).1 49 8 = nI n
        rw [xt_sN_o (by omega)]
        exact hn
      have h9u : (xt_sA (xt_sN S 49 9 (nI (b + i))) 66 g).1 49 9 = nI (b + i) := by
        show (xt_sN S 49 9 (nI (b + i))).1 49 9 = nI (b + i)
        exact xt_s2_v
      refine xt_iload_n C dX6_places_2 rfl ?_
      refine xt_iconst (v := nI 4) C dX6_places_3 rfl ?_
      refine xt_icmp_geN (tgt := 68) C dX6_places_4 (by decide) (by omega) (by omega) (fun c4 => ?_) (fun c4 => ?_)
      · refine xt_iconst (v := nI 1) C dX6_places_68 rfl ?_
        exact xt_zret C dX6_places_69 (by decide) ⟨by decide, by decide⟩ ⟨rfl, g, by rw [show i = 4 by omega], fun j hj => hg j (by omega)⟩
      · refine xt_iload_n C dX6_places_7 rfl ?_
        refine xt_iconst (v := nI 2) C dX6_places_8 rfl ?_
        refine xt_iremN C dX6_places_9 (by omega) (by omega) (by omega) ?_
        refine xt_if_neN (tgt := 18) C dX6_places_10 (by decide) (by omega) (fun c10 => ?_) (fun c10 => ?_)
        · have hp9 : xt_pf9 i (xt_sg (S.2.1 54) n (b + i)) = (nI 65 ≤ (xt_sg (S.2.1 54) n (b + i)) ∧ (xt_sg (S.2.1 54) n (b + i)) ≤ nI (65 + 15)) := if_neg (by omega)
          have hq9 : xt_pb9 i = nI 65 := if_neg (by omega)
          refine xt_bipush (v := nI 65) C dX6_places_18 (by decide) ?_
          refine xt_istore_n (lo' := [_, _, _]) C dX6_places_20 (Nat.le_of_ble_eq_true rfl) rfl rfl ?_
          refine xt_aload_n C dX6_places_21 rfl ?_
          refine xt_cV C mv_X6_here lkX6_226 (ct_here (S := (xt_sA (xt_sN S 49 9 (nI (b + i))) 66 g)) (b := b + i) h8u h60 h9u (by omega)) rfl (by decide) (xt_cl49 _ _) rfl (by decide) rfl (Nat.le_of_ble_eq_true rfl) dX6_places_22 ?_
          refine xt_iload_n C dX6_places_25 rfl ?_
          refine xt_iload_n C dX6_places_26 rfl ?_
          refine xt_bipush (v := nI 15) C dX6_places_27 (by decide) ?_
          refine xt_iaddN C dX6_places_29 ?_
          refine xt_cS C ms_X6_in lkX6_81 ct_in rfl (by decide) rfl (Nat.le_of_ble_eq_true rfl) dX6_places_30 ?_
          refine xt_if_neB (tgt := 38) C dX6_places_33 (by decide) (fun c33 => ?_) (fun c33 => ?_)
          · replace c33 : (_ ∧ _) := c33
            have hlt : b + i < n := xt_sg_in (by decide) c33.1
            refine xt_aload_n C dX6_places_38 rfl ?_
            refine xt_get (f := 28) C xt_u6 rfl (by decide) (xt_cl49 _ _) (by decide) lkX6_67 rfl dX6_places_39 ?_
            refine xt_iload_n C dX6_places_42 rfl ?_
            refine xt_aload_n C dX6_places_43 rfl ?_
            refine xt_get (f := 7) C xt_u6 rfl (by decide) (xt_cl49 _ _) (by decide) lkX6_22 rfl dX6_places_44 ?_
            refine xt_aload_n C dX6_places_47 rfl ?_
            refine xt_dup C dX6_places_48 rfl ?_
            refine xt_get (f := 9) C xt_u6 rfl (by decide) (xt_cl49 _ _) (by decide) lkX6_223 (xt_vI h9u) dX6_places_49 ?_
            refine xt_dup_x1 C dX6_places_52 rfl rfl ?_
            refine xt_iconst (v := nI 1) C dX6_places_53 rfl ?_
            refine xt_iaddN C dX6_places_54 ?_
            refine xt_put (f := 9) C xt_u6 rfl (by decide) (xt_cl49 _ _) (by decide) tyX6 tyX6_ok nmX6 lkX6_223 rfl (tyX6_ok 9 (by decide)) rfl rfl (Nat.le_of_ble_eq_true rfl) rfl dX6_places_55 ?_
            refine xt_ialdN C (by decide) (xt_cl54 _) (by omega) (by decide) (show S.2.1 54 (b + i) = (xt_sg (S.2.1 54) n (b + i)) from (xt_sg1 hlt).symm) dX6_places_58 ?_
            refine xt_iload_n C dX6_places_59 rfl ?_
            refine xt_isub C dX6_places_60 ?_
            refine xt_iastN C (by decide) (xt_cl66 _) (by omega) (by decide) dX6_places_61 ?_
            rw [xt_UU]
            refine xt_iincN (z := 1) (lo' := [_, _, _]) C dX6_places_62 rfl rfl rfl ?_
            refine xt_goto (tgt := 2) C dX6_places_65 (by decide) ?_
            exact xt_fg (by repeat' constructor) (ih (i + 1) _ (by omega) (fun j hj => by
              by_cases e9 : j = i
              · rw [e9, xt_up_s, hq9]
              · rw [xt_up_n e9]; exact hg j (by omega)) (by omega))
          · exact absurd (Eq.mp hp9 (h i (by omega))) c33
        · have hp9 : xt_pf9 i (xt_sg (S.2.1 54) n (b + i)) = (nI 97 ≤ (xt_sg (S.2.1 54) n (b + i)) ∧ (xt_sg (S.2.1 54) n (b + i)) ≤ nI (97 + 15)) := if_pos (by omega)
          have hq9 : xt_pb9 i = nI 97 := if_pos (by omega)
          refine xt_bipush (v := nI 97) C dX6_places_13 (by decide) ?_
          refine xt_goto (tgt := 20) C dX6_places_15 (by decide) ?_
          refine xt_istore_n (lo' := [_, _, _]) C dX6_places_20 (Nat.le_of_ble_eq_true rfl) rfl rfl ?_
          refine xt_aload_n C dX6_places_21 rfl ?_
          refine xt_cV C mv_X6_here lkX6_226 (ct_here (S := (xt_sA (xt_sN S 49 9 (nI (b + i))) 66 g)) (b := b + i) h8u h60 h9u (by omega)) rfl (by decide) (xt_cl49 _ _) rfl (by decide) rfl (Nat.le_of_ble_eq_true rfl) dX6_places_22 ?_
          refine xt_iload_n C dX6_places_25 rfl ?_
          refine xt_iload_n C dX6_places_26 rfl ?_
          refine xt_bipush (v := nI 15) C dX6_places_27 (by decide) ?_
          refine xt_iaddN C dX6_places_29 ?_
          refine xt_cS C ms_X6_in lkX6_81 ct_in rfl (by decide) rfl (Nat.le_of_ble_eq_true rfl) dX6_places_30 ?_
          refine xt_if_neB (tgt := 38) C dX6_places_33 (by decide) (fun c33 => ?_) (fun c33 => ?_)
          · replace c33 : (_ ∧ _) := c33
            have hlt : b + i < n := xt_sg_in (by decide) c33.1
            refine xt_aload_n C dX6_places_38 rfl ?_
            refine xt_get (f := 28) C xt_u6 rfl (by decide) (xt_cl49 _ _) (by decide) lkX6_67 rfl dX6_places_39 ?_
            refine xt_iload_n C dX6_places_42 rfl ?_
            refine xt_aload_n C dX6_places_43 rfl ?_
            refine xt_get (f := 7) C xt_u6 rfl (by decide) (xt_cl49 _ _) (by decide) lkX6_22 rfl dX6_places_44 ?_
            refine xt_aload_n C dX6_places_47 rfl ?_
            refine xt_dup C dX6_places_48 rfl ?_
            refine xt_get (f := 9) C xt_u6 rfl (by decide) (xt_cl49 _ _) (by decide) lkX6_223 (xt_vI h9u) dX6_places_49 ?_
            refine xt_dup_x1 C dX6_places_52 rfl rfl ?_
            refine xt_iconst (v := nI 1) C dX6_places_53 rfl ?_
            refine xt_iaddN C dX6_places_54 ?_
            refine xt_put (f := 9) C xt_u6 rfl (by decide) (xt_cl49 _ _) (by decide) tyX6 tyX6_ok nmX6 lkX6_223 rfl (tyX6_ok 9 (by decide)) rfl rfl (Nat.le_of_ble_eq_true rfl) rfl dX6_places_55 ?_
            refine xt_ialdN C (by decide) (xt_cl54 _) (by omega) (by decide) (show S.2.1 54 (b + i) = (xt_sg (S.2.1 54) n (b + i)) from (xt_sg1 hlt).symm) dX6_places_58 ?_
            refine xt_iload_n C dX6_places_59 rfl ?_
            refine xt_isub C dX6_places_60 ?_
            refine xt_iastN C (by decide) (xt_cl66 _) (by omega) (by decide) dX6_places_61 ?_
            rw [xt_UU]
            refine xt_iincN (z := 1) (lo' := [_, _, _]) C dX6_places_62 rfl rfl rfl ?_
            refine xt_goto (tgt := 2) C dX6_places_65 (by decide) ?_
            exact xt_fg (by repeat' constructor) (ih (i + 1) _ (by omega) (fun j hj => by
              by_cases e9 : j = i
              · rw [e9, xt_up_s, hq9]
              · rw [xt_up_n e9]; exact hg j (by omega)) (by omega))
          · exact absurd (Eq.mp hp9 (h i (by omega))) c33
  refine xt_iconst (v := nI 0) C dX6_places_0 rfl ?_
  refine xt_istore_n (lo' := [_, _, _]) C dX6_places_1 (Nat.le_of_ble_eq_true rfl) rfl rfl ?_
  have h9 := loop (4 + 1) 0 (S.2.1 66) (by omega) (fun j hj => absurd hj (Nat.not_lt_zero _)) (by omega)
  rw [show b + 0 = b from rfl, xt_sN_q hb, xt_sA_self] at h9
  exact xt_fg (by repeat' constructor) h9
set_option maxRecDepth 20000 in
set_option maxHeartbeats 2000000 in
theorem ct_places0 {n b : Nat} (hn : S.1 49 8 = nI n) (h60 : n ≤ 60) (hb : S.1 49 9 = nI b) (hb9 : b < 1000) {k : Nat} (hk4 : k < 4) (h : ∀ j, j < k → xt_pf9 j (xt_sg (S.2.1 54) n (b + j))) (hk : ¬ xt_pf9 k (xt_sg (S.2.1 54) n (b + k))) : xt_Ct E l yX6_places cX6_places 3 (some Jvm.ClassFile.FieldType.boolean) 1 22 0 0 [.ref (E.1 49)] S (xt_Ep (some (.int (nI 0))) (fun S9 => ∃ g, S9 = xt_sA (xt_sN S 49 9 (nI (b + k))) 66 g)) := by
  refine xt_body (by decide +kernel) (xt_all rfl) (Nat.le_of_ble_eq_true rfl) (fun cx C hl9 => ?_)
  show xt_X E cx _ 0 0 0 [some (.ref (E.1 49)), none, none] [] S
  have loop : ∀ (d i : Nat) (g : Nat → Int32), i ≤ k → (∀ j, j < i → g j = xt_sg (S.2.1 54) n (b + j) - xt_pb9 j) → k + 1 ≤ i + d → xt_X E cx (xt_ZM E cx 0 0 (xt_Ep (some (.int (nI 0))) (fun S9 => ∃ g, S9 = xt_sA (xt_sN S 49 9 (nI (b + k))) 66 g))) 0 0 2 [some (.ref (E.1 49)), some (.int (nI i)), none] [] (xt_sA (xt_sN S 49 9 (nI (b + i))) 66 g) := by
    intro d
    induction d with
    | zero => intro i g h0i hg h1i; exact absurd h1i (by omega)
    | succ d ih =>
      intro i g h0i hg h1i
      have h8u : (xt_sA (xt_sN S 49 9 (nI (b + i))) 66 g).1 49 8 = nI n := by
        show (xt_sN S 49 9 (nI (b + i))).1 49 8 = nI n
        rw [xt_sN_o (by omega)]
        exact hn
      have h9u : (xt_sA (xt_sN S 49 9 (nI (b + i))) 66 g).1 49 9 = nI (b + i) := by
        show (xt_sN S 49 9 (nI (b + i))).1 49 9 = nI (b + i)
        exact xt_s2_v
      refine xt_iload_n C dX6_places_2 rfl ?_
      refine xt_iconst (v := nI 4) C dX6_places_3 rfl ?_
      refine xt_icmp_geN (tgt := 68) C dX6_places_4 (by decide) (by omega) (by omega) (fun c4 => ?_) (fun c4 => ?_)
      · exact absurd c4 (by omega)
      · refine xt_iload_n C dX6_places_7 rfl ?_
        refine xt_iconst (v := nI 2) C dX6_places_8 rfl ?_
        refine xt_iremN C dX6_places_9 (by omega) (by omega) (by omega) ?_
        refine xt_if_neN (tgt := 18) C dX6_places_10 (by decide) (by omega) (fun c10 => ?_) (fun c10 => ?_)
        · have hp9 : xt_pf9 i (xt_sg (S.2.1 54) n (b + i)) = (nI 65 ≤ (xt_sg (S.2.1 54) n (b + i)) ∧ (xt_sg (S.2.1 54) n (b + i)) ≤ nI (65 + 15)) := if_neg (by omega)
          have hq9 : xt_pb9 i = nI 65 := if_neg (by omega)
          refine xt_bipush (v := nI 65) C dX6_places_18 (by decide) ?_
          refine xt_istore_n (lo' := [_, _, _]) C dX6_places_20 (Nat.le_of_ble_eq_true rfl) rfl rfl ?_
          refine xt_aload_n C dX6_places_21 rfl ?_
          refine xt_cV C mv_X6_here lkX6_226 (ct_here (S := (xt_sA (xt_sN S 49 9 (nI (b + i))) 66 g)) (b := b + i) h8u h60 h9u (by omega)) rfl (by decide) (xt_cl49 _ _) rfl (by decide) rfl (Nat.le_of_ble_eq_true rfl) dX6_places_22 ?_
          refine xt_iload_n C dX6_places_25 rfl ?_
          refine xt_iload_n C dX6_places_26 rfl ?_
          refine xt_bipush (v := nI 15) C dX6_places_27 (by decide) ?_
          refine xt_iaddN C dX6_places_29 ?_
          refine xt_cS C ms_X6_in lkX6_81 ct_in rfl (by decide) rfl (Nat.le_of_ble_eq_true rfl) dX6_places_30 ?_
          refine xt_if_neB (tgt := 38) C dX6_places_33 (by decide) (fun c33 => ?_) (fun c33 => ?_)
          · replace c33 : (_ ∧ _) := c33
            have hlt : b + i < n := xt_sg_in (by decide) c33.1
            have hne : ¬ i = k := fun z => by rw [z] at c33 hp9; exact hk (Eq.mpr hp9 c33)
            refine xt_aload_n C dX6_places_38 rfl ?_
            refine xt_get (f := 28) C xt_u6 rfl (by decide) (xt_cl49 _ _) (by decide) lkX6_67 rfl dX6_places_39 ?_
            refine xt_iload_n C dX6_places_42 rfl ?_
            refine xt_aload_n C dX6_places_43 rfl ?_
            refine xt_get (f := 7) C xt_u6 rfl (by decide) (xt_cl49 _ _) (by decide) lkX6_22 rfl dX6_places_44 ?_
            refine xt_aload_n C dX6_places_47 rfl ?_
            refine xt_dup C dX6_places_48 rfl ?_
            refine xt_get (f := 9) C xt_u6 rfl (by decide) (xt_cl49 _ _) (by decide) lkX6_223 (xt_vI h9u) dX6_places_49 ?_
            refine xt_dup_x1 C dX6_places_52 rfl rfl ?_
            refine xt_iconst (v := nI 1) C dX6_places_53 rfl ?_
            refine xt_iaddN C dX6_places_54 ?_
            refine xt_put (f := 9) C xt_u6 rfl (by decide) (xt_cl49 _ _) (by decide) tyX6 tyX6_ok nmX6 lkX6_223 rfl (tyX6_ok 9 (by decide)) rfl rfl (Nat.le_of_ble_eq_true rfl) rfl dX6_places_55 ?_
            refine xt_ialdN C (by decide) (xt_cl54 _) (by omega) (by decide) (show S.2.1 54 (b + i) = (xt_sg (S.2.1 54) n (b + i)) from (xt_sg1 hlt).symm) dX6_places_58 ?_
            refine xt_iload_n C dX6_places_59 rfl ?_
            refine xt_isub C dX6_places_60 ?_
            refine xt_iastN C (by decide) (xt_cl66 _) (by omega) (by decide) dX6_places_61 ?_
            rw [xt_UU]
            refine xt_iincN (z := 1) (lo' := [_, _, _]) C dX6_places_62 rfl rfl rfl ?_
            refine xt_goto (tgt := 2) C dX6_places_65 (by decide) ?_
            exact xt_fg (by repeat' constructor) (ih (i + 1) _ (by omega) (fun j hj => by
              by_cases e9 : j = i
              · rw [e9, xt_up_s, hq9]
              · rw [xt_up_n e9]; exact hg j (by omega)) (by omega))
          · have hik : i = k := Classical.byContradiction (fun z => c33 (Eq.mp hp9 (h i (by omega))))
            refine xt_iconst (v := nI 0) C dX6_places_36 rfl ?_
            exact xt_zret C dX6_places_37 (by decide) ⟨by decide, by decide⟩ ⟨rfl, g, by rw [hik]⟩
        · have hp9 : xt_pf9 i (xt_sg (S.2.1 54) n (b + i)) = (nI 97 ≤ (xt_sg (S.2.1 54) n (b + i)) ∧ (xt_sg (S.2.1 54) n (b + i)) ≤ nI (97 + 15)) := if_pos (by omega)
          have hq9 : xt_pb9 i = nI 97 := if_pos (by omega)
          refine xt_bipush (v := nI 97) C dX6_places_13 (by decide) ?_
          refine xt_goto (tgt := 20) C dX6_places_15 (by decide) ?_
          refine xt_istore_n (lo' := [_, _, _]) C dX6_places_20 (Nat.le_of_ble_eq_true rfl) rfl rfl ?_
          refine xt_aload_n C dX6_places_21 rfl ?_
          refine xt_cV C mv_X6_here lkX6_226 (ct_here (S := (xt_sA (xt_sN S 49 9 (nI (b + i))) 66 g)) (b := b + i) h8u h60 h9u (by omega)) rfl (by decide) (xt_cl49 _ _) rfl (by decide) rfl (Nat.le_of_ble_eq_true rfl) dX6_places_22 ?_
          refine xt_iload_n C dX6_places_25 rfl ?_
          refine xt_iload_n C dX6_places_26 rfl ?_
          refine xt_bipush (v := nI 15) C dX6_places_27 (by decide) ?_
          refine xt_iaddN C dX6_places_29 ?_
          refine xt_cS C ms_X6_in lkX6_81 ct_in rfl (by decide) rfl (Nat.le_of_ble_eq_true rfl) dX6_places_30 ?_
          refine xt_if_neB (tgt := 38) C dX6_places_33 (by decide) (fun c33 => ?_) (fun c33 => ?_)
          · replace c33 : (_ ∧ _) := c33
            have hlt : b + i < n := xt_sg_in (by decide) c33.1
            have hne : ¬ i = k := fun z => by rw [z] at c33 hp9; exact hk (Eq.mpr hp9 c33)
            refine xt_aload_n C dX6_places_38 rfl ?_
            refine xt_get (f := 28) C xt_u6 rfl (by decide) (xt_cl49 _ _) (by decide) lkX6_67 rfl dX6_places_39 ?_
            refine xt_iload_n C dX6_places_42 rfl ?_
            refine xt_aload_n C dX6_places_43 rfl ?_
            refine xt_get (f := 7) C xt_u6 rfl (by decide) (xt_cl49 _ _) (by decide) lkX6_22 rfl dX6_places_44 ?_
            refine xt_aload_n C dX6_places_47 rfl ?_
            refine xt_dup C dX6_places_48 rfl ?_
            refine xt_get (f := 9) C xt_u6 rfl (by decide) (xt_cl49 _ _) (by decide) lkX6_223 (xt_vI h9u) dX6_places_49 ?_
            refine xt_dup_x1 C dX6_places_52 rfl rfl ?_
            refine xt_iconst (v := nI 1) C dX6_places_53 rfl ?_
            refine xt_iaddN C dX6_places_54 ?_
            refine xt_put (f := 9) C xt_u6 rfl (by decide) (xt_cl49 _ _) (by decide) tyX6 tyX6_ok nmX6 lkX6_223 rfl (tyX6_ok 9 (by decide)) rfl rfl (Nat.le_of_ble_eq_true rfl) rfl dX6_places_55 ?_
            refine xt_ialdN C (by decide) (xt_cl54 _) (by omega) (by decide) (show S.2.1 54 (b + i) = (xt_sg (S.2.1 54) n (b + i)) from (xt_sg1 hlt).symm) dX6_places_58 ?_
            refine xt_iload_n C dX6_places_59 rfl ?_
            refine xt_isub C dX6_places_60 ?_
            refine xt_iastN C (by decide) (xt_cl66 _) (by omega) (by decide) dX6_places_61 ?_
            rw [xt_UU]
            refine xt_iincN (z := 1) (lo' := [_, _, _]) C dX6_places_62 rfl rfl rfl ?_
            refine xt_goto (tgt := 2) C dX6_places_65 (by decide) ?_
            exact xt_fg (by repeat' constructor) (ih (i + 1) _ (by omega) (fun j hj => by
              by_cases e9 : j = i
              · rw [e9, xt_up_s, hq9]
              · rw [xt_up_n e9]; exact hg j (by omega)) (by omega))
          · have hik : i = k := Classical.byContradiction (fun z => c33 (Eq.mp hp9 (h i (by omega))))
            refine xt_iconst (v := nI 0) C dX6_places_36 rfl ?_
            exact xt_zret C dX6_places_37 (by decide) ⟨by decide, by decide⟩ ⟨rfl, g, by rw [hik]⟩
  refine xt_iconst (v := nI 0) C dX6_places_0 rfl ?_
  refine xt_istore_n (lo' := [_, _, _]) C dX6_places_1 (Nat.le_of_ble_eq_true rfl) rfl rfl ?_
  have h9 := loop (k + 1) 0 (S.2.1 66) (by omega) (fun j hj => absurd hj (Nat.not_lt_zero _)) (by omega)
  rw [show b + 0 = b from rfl, xt_sN_q hb, xt_sA_self] at h9
  exact xt_fg (by repeat' constructor) h9
noncomputable def xt_wc (c r : Nat) (g0 g1 g2 g3 : Int32) : Int32 := @ite _ (xt_pix c r g0 g1 ∧ xt_pix c r g2 g3) (Classical.propDecidable _) (@ite _ (g0 ≤ g2 ∧ g1 ≤ g3) (Classical.propDecidable _) (nI 0) (nI 2)) (nI 1)
set_option maxRecDepth 20000 in
set_option maxHeartbeats 2000000 in
theorem ct_whyCorner {c r sd lv bo : Nat} (hM : xt_Mp S c r sd lv bo) {x0 x1 x2 x3 : Int32} (g0 : S.2.1 66 0 = x0) (g1 : S.2.1 66 1 = x1) (g2 : S.2.1 66 2 = x2) (g3 : S.2.1 66 3 = x3) : xt_Ct E l yX6_whyCorner cX6_whyCorner 1 (some Jvm.ClassFile.FieldType.int) 2 44 0 0 [.ref (E.1 49)] S (xt_Eq (some (.int (xt_wc c r x0 x1 x2 x3))) S) := by
  refine xt_body (by decide +kernel) (xt_all rfl) (Nat.le_of_ble_eq_true rfl) (fun cx C hl9 => ?_)
  show xt_X E cx _ 0 0 0 [some (.ref (E.1 49))] [] S
  have hM9 := hM
  obtain ⟨hc, hr, hs, hv, hb, b1, b2, b3, b4, b5, b6, b7⟩ := hM
  refine xt_aload_n C dX6_whyCorner_0 rfl ?_
  refine xt_aload_n C dX6_whyCorner_1 rfl ?_
  refine xt_get (f := 28) C xt_u6 rfl (by decide) (xt_cl49 _ _) (by decide) lkX6_67 rfl dX6_whyCorner_2 ?_
  refine xt_iconst (v := nI 0) C dX6_whyCorner_5 rfl ?_
  refine xt_ialdN C (by decide) (xt_cl66 _) (by decide) (by decide) g0 dX6_whyCorner_6 ?_
  refine xt_aload_n C dX6_whyCorner_7 rfl ?_
  refine xt_get (f := 28) C xt_u6 rfl (by decide) (xt_cl49 _ _) (by decide) lkX6_67 rfl dX6_whyCorner_8 ?_
  refine xt_iconst (v := nI 1) C dX6_whyCorner_11 rfl ?_
  refine xt_ialdN C (by decide) (xt_cl66 _) (by decide) (by decide) g1 dX6_whyCorner_12 ?_
  refine xt_cV C mv_X6_isPixel lkX6_158 (ct_isPixel (by exact hM9)) rfl (by decide) (xt_cl49 _ _) rfl (by decide) rfl (Nat.le_of_ble_eq_true rfl) dX6_whyCorner_13 ?_
  refine xt_if_eqB (tgt := 38) C dX6_whyCorner_16 (by decide) (fun c16 => ?_) (fun c16 => ?_)
  · refine xt_iconst (v := nI 1) C dX6_whyCorner_38 rfl ?_
    refine xt_iret C dX6_whyCorner_39 ⟨by decide, by decide⟩ ?_
    first
    | exact ⟨by unfold xt_wc; rw [if_neg (fun z => c16 z.1)], rfl⟩
    | exact ⟨by unfold xt_wc; rw [if_neg (fun z => c35 z.2)], rfl⟩
    | exact ⟨by unfold xt_wc; rw [if_pos ⟨c16, c35⟩, if_neg (fun z => absurd c52 (Int32.not_lt.mpr z.1))], rfl⟩
    | exact ⟨by unfold xt_wc; rw [if_pos ⟨c16, c35⟩, if_neg (fun z => c67 z.2)], rfl⟩
    | exact ⟨by unfold xt_wc; rw [if_pos ⟨c16, c35⟩, if_pos ⟨Int32.not_lt.mp c52, c67⟩], rfl⟩
  · refine xt_aload_n C dX6_whyCorner_19 rfl ?_
    refine xt_aload_n C dX6_whyCorner_20 rfl ?_
    refine xt_get (f := 28) C xt_u6 rfl (by decide) (xt_cl49 _ _) (by decide) lkX6_67 rfl dX6_whyCorner_21 ?_
    refine xt_iconst (v := nI 2) C dX6_whyCorner_24 rfl ?_
    refine xt_ialdN C (by decide) (xt_cl66 _) (by decide) (by decide) g2 dX6_whyCorner_25 ?_
    refine xt_aload_n C dX6_whyCorner_26 rfl ?_
    refine xt_get (f := 28) C xt_u6 rfl (by decide) (xt_cl49 _ _) (by decide) lkX6_67 rfl dX6_whyCorner_27 ?_
    refine xt_iconst (v := nI 3) C dX6_whyCorner_30 rfl ?_
    refine xt_ialdN C (by decide) (xt_cl66 _) (by decide) (by decide) g3 dX6_whyCorner_31 ?_
    refine xt_cV C mv_X6_isPixel lkX6_158 (ct_isPixel (by exact hM9)) rfl (by decide) (xt_cl49 _ _) rfl (by decide) rfl (Nat.le_of_ble_eq_true rfl) dX6_whyCorner_32 ?_
    refine xt_if_neB (tgt := 40) C dX6_whyCorner_35 (by decide) (fun c35 => ?_) (fun c35 => ?_)
    · refine xt_aload_n C dX6_whyCorner_40 rfl ?_
      refine xt_get (f := 28) C xt_u6 rfl (by decide) (xt_cl49 _ _) (by decide) lkX6_67 rfl dX6_whyCorner_41 ?_
      refine xt_iconst (v := nI 0) C dX6_whyCorner_44 rfl ?_
      refine xt_ialdN C (by decide) (xt_cl66 _) (by decide) (by decide) g0 dX6_whyCorner_45 ?_
      refine xt_aload_n C dX6_whyCorner_46 rfl ?_
      refine xt_get (f := 28) C xt_u6 rfl (by decide) (xt_cl49 _ _) (by decide) lkX6_67 rfl dX6_whyCorner_47 ?_
      refine xt_iconst (v := nI 2) C dX6_whyCorner_50 rfl ?_
      refine xt_ialdN C (by decide) (xt_cl66 _) (by decide) (by decide) g2 dX6_whyCorner_51 ?_
      refine xt_icmp_gt (tgt := 70) C dX6_whyCorner_52 (by decide) (fun c52 => ?_) (fun c52 => ?_)
      · refine xt_iconst (v := nI 2) C dX6_whyCorner_70 rfl ?_
        refine xt_goto (tgt := 75) C dX6_whyCorner_71 (by decide) ?_
        refine xt_iret C dX6_whyCorner_75 ⟨by decide, by decide⟩ ?_
        first
        | exact ⟨by unfold xt_wc; rw [if_neg (fun z => c16 z.1)], rfl⟩
        | exact ⟨by unfold xt_wc; rw [if_neg (fun z => c35 z.2)], rfl⟩
        | exact ⟨by unfold xt_wc; rw [if_pos ⟨c16, c35⟩, if_neg (fun z => absurd c52 (Int32.not_lt.mpr z.1))], rfl⟩
        | exact ⟨by unfold xt_wc; rw [if_pos ⟨c16, c35⟩, if_neg (fun z => c67 z.2)], rfl⟩
        | exact ⟨by unfold xt_wc; rw [if_pos ⟨c16, c35⟩, if_pos ⟨Int32.not_lt.mp c52, c67⟩], rfl⟩
      · refine xt_aload_n C dX6_whyCorner_55 rfl ?_
        refine xt_get (f := 28) C xt_u6 rfl (by decide) (xt_cl49 _ _) (by decide) lkX6_67 rfl dX6_whyCorner_56 ?_
        refine xt_iconst (v := nI 1) C dX6_whyCorner_59 rfl ?_
        refine xt_ialdN C (by decide) (xt_cl66 _) (by decide) (by decide) g1 dX6_whyCorner_60 ?_
        refine xt_aload_n C dX6_whyCorner_61 rfl ?_
        refine xt_get (f := 28) C xt_u6 rfl (by decide) (xt_cl49 _ _) (by decide) lkX6_67 rfl dX6_whyCorner_62 ?_
        refine xt_iconst (v := nI 3) C dX6_whyCorner_65 rfl ?_
        refine xt_ialdN C (by decide) (xt_cl66 _) (by decide) (by decide) g3 dX6_whyCorner_66 ?_
        refine xt_icmp_le (tgt := 74) C dX6_whyCorner_67 (by decide) (fun c67 => ?_) (fun c67 => ?_)
        · refine xt_iconst (v := nI 0) C dX6_whyCorner_74 rfl ?_
          refine xt_iret C dX6_whyCorner_75 ⟨by decide, by decide⟩ ?_
          first
          | exact ⟨by unfold xt_wc; rw [if_neg (fun z => c16 z.1)], rfl⟩
          | exact ⟨by unfold xt_wc; rw [if_neg (fun z => c35 z.2)], rfl⟩
          | exact ⟨by unfold xt_wc; rw [if_pos ⟨c16, c35⟩, if_neg (fun z => absurd c52 (Int32.not_lt.mpr z.1))], rfl⟩
          | exact ⟨by unfold xt_wc; rw [if_pos ⟨c16, c35⟩, if_neg (fun z => c67 z.2)], rfl⟩
          | exact ⟨by unfold xt_wc; rw [if_pos ⟨c16, c35⟩, if_pos ⟨Int32.not_lt.mp c52, c67⟩], rfl⟩
        · refine xt_iconst (v := nI 2) C dX6_whyCorner_70 rfl ?_
          refine xt_goto (tgt := 75) C dX6_whyCorner_71 (by decide) ?_
          refine xt_iret C dX6_whyCorner_75 ⟨by decide, by decide⟩ ?_
          first
          | exact ⟨by unfold xt_wc; rw [if_neg (fun z => c16 z.1)], rfl⟩
          | exact ⟨by unfold xt_wc; rw [if_neg (fun z => c35 z.2)], rfl⟩
          | exact ⟨by unfold xt_wc; rw [if_pos ⟨c16, c35⟩, if_neg (fun z => absurd c52 (Int32.not_lt.mpr z.1))], rfl⟩
          | exact ⟨by unfold xt_wc; rw [if_pos ⟨c16, c35⟩, if_neg (fun z => c67 z.2)], rfl⟩
          | exact ⟨by unfold xt_wc; rw [if_pos ⟨c16, c35⟩, if_pos ⟨Int32.not_lt.mp c52, c67⟩], rfl⟩
    · refine xt_iconst (v := nI 1) C dX6_whyCorner_38 rfl ?_
      refine xt_iret C dX6_whyCorner_39 ⟨by decide, by decide⟩ ?_
      first
      | exact ⟨by unfold xt_wc; rw [if_neg (fun z => c16 z.1)], rfl⟩
      | exact ⟨by unfold xt_wc; rw [if_neg (fun z => c35 z.2)], rfl⟩
      | exact ⟨by unfold xt_wc; rw [if_pos ⟨c16, c35⟩, if_neg (fun z => absurd c52 (Int32.not_lt.mpr z.1))], rfl⟩
      | exact ⟨by unfold xt_wc; rw [if_pos ⟨c16, c35⟩, if_neg (fun z => c67 z.2)], rfl⟩
      | exact ⟨by unfold xt_wc; rw [if_pos ⟨c16, c35⟩, if_pos ⟨Int32.not_lt.mp c52, c67⟩], rfl⟩
set_option maxRecDepth 20000 in
set_option maxHeartbeats 2000000 in
theorem ct_faults {b : Nat} (hb : S.1 49 9 = nI b) : xt_Ct E l yX6_faults cX6_faults 1 (some Jvm.ClassFile.FieldType.int) 1 21 0 0 [.ref (E.1 49)] S (xt_Eq (some (.int (nI 0))) (xt_sN (xt_sN (xt_sN S 49 10 (nI b)) 49 8 (nI 0)) 49 0 (nI 1))) := by
  refine xt_body (by decide +kernel) (xt_all rfl) (Nat.le_of_ble_eq_true rfl) (fun cx C hl9 => ?_)
  show xt_X E cx _ 0 0 0 [some (.ref (E.1 49))] [] S
  refine xt_aload_n C dX6_faults_0 rfl ?_
  refine xt_aload_n C dX6_faults_1 rfl ?_
  refine xt_get (f := 9) C xt_u6 rfl (by decide) (xt_cl49 _ _) (by decide) lkX6_223 (xt_vI (by exact hb)) dX6_faults_2 ?_
  refine xt_put (f := 10) C xt_u6 rfl (by decide) (xt_cl49 _ _) (by decide) tyX6 tyX6_ok nmX6 lkX6_25 rfl (tyX6_ok 10 (by decide)) rfl rfl (Nat.le_of_ble_eq_true rfl) rfl dX6_faults_5 ?_
  refine xt_aload_n C dX6_faults_8 rfl ?_
  refine xt_iconst (v := nI 0) C dX6_faults_9 rfl ?_
  refine xt_put (f := 8) C xt_u6 rfl (by decide) (xt_cl49 _ _) (by decide) tyX6 tyX6_ok nmX6 lkX6_155 rfl (tyX6_ok 8 (by decide)) rfl rfl (Nat.le_of_ble_eq_true rfl) rfl dX6_faults_10 ?_
  refine xt_aload_n C dX6_faults_13 rfl ?_
  refine xt_iconst (v := nI 1) C dX6_faults_14 rfl ?_
  refine xt_cV C mv_X6_raises lkX6_142 ct_mraises rfl (by decide) (xt_cl49 _ _) rfl (by decide) rfl (Nat.le_of_ble_eq_true rfl) dX6_faults_15 ?_
  exact xt_iret C dX6_faults_18 ⟨by decide, by decide⟩ ⟨rfl, rfl⟩
end XM20
