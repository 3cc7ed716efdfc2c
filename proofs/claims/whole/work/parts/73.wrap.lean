/-! the wrappers: the tiler's method called, its exception told by a number -/
section XC41
theorem xt_dastN {E : xt_Ev} {cx : xt_Cx} {Z : State → Prop} {k n pc nL : Nat} {lo : List (Option Value)} {st : List Value} {S : xt_St} {own : String} {cc : ByteArray} {ret : Option FieldType} {rm : Room} (C : xt_Ok own cc nL ret rm E cx) {i len : Nat} (hi : i < xt_NC) (ha : xt_arD E i len) {j : Nat} {x : UInt64} (hj : j < len) (hl : len < 2 ^ 31) (d : decode cc pc = .ok (.dastore, 1)) (kk : xt_X E cx Z k n (pc + 1) lo st (xt_sD S i (vf_upd (S.2.2.2 i) j x))) : xt_X E cx Z k n pc lo (.double x :: .int (nI j) :: .ref (E.1 i) :: st) S := xt_dast C hi ha (vp_in_nI hj hl) d (by rw [nI_clamp (by omega)]; exact kk)
variable {E : xt_Ev} {l : Launch} {S : xt_St} {Q Q' : Option Value → xt_St → Prop} {QX : String → xt_St → Prop} {fr lw : Nat}
set_option maxRecDepth 20000 in
set_option maxHeartbeats 1000000 in
theorem wr_size {a0 a1 : Int32} (hct : xt_CtX E l yX5_size cX5_size 3 (some Jvm.ClassFile.FieldType.int) fr lw 1 6 (.ref (E.1 0) :: [.int a0, .int a1]) S Q QX) (hq : ∀ v S', Q v S' → ∃ x : Int32, v = some (.int x) ∧ Q' (some (.int (nI 0))) (xt_sB S' 67 (vp_updL (S'.2.2.1 67) 0 x.toInt64))) (hx : ∀ X S', QX X S' → (X = "java/lang/IllegalArgumentException" ∧ Q' (some (.int (nI 1))) S')) : xt_CtH E l yL_size cL_size 5 (some Jvm.ClassFile.FieldType.int) hh_L_size (fr + 1) (lw + 22) 1 6 [.ref (E.1 0), .int a0, .int a1, .ref (E.1 67)] S Q' := by
  refine xt_bodyH (by decide +kernel) (xt_all rfl) (Nat.le_of_ble_eq_true rfl) (fun cx C hl9 hx9 => ?_)
  show xt_X E cx _ 0 0 0 [some (.ref (E.1 0)), some (.int a0), some (.int a1), some (.ref (E.1 67)), none] [] S
  refine xt_aload_n C dL_size_0 rfl ?_
  refine xt_iconst (v := nI 0) C dL_size_1 rfl ?_
  refine xt_aload_n C dL_size_2 rfl ?_
  refine xt_iload_n C dL_size_3 rfl ?_
  refine xt_iload_n C dL_size_4 rfl ?_
  refine xt_callVX C mv_X5_size lkL_7 (by rw [hl9]; exact hct) rfl (by decide) (xt_cl0 _ _) rfl ⟨Nat.le_refl _, by show 8 + (3 + 11) + lw ≤ lw + 22; omega, Nat.le_of_ble_eq_true rfl, Nat.le_of_ble_eq_true rfl⟩ rfl (Nat.le_of_ble_eq_true rfl) dL_size_5 (fun v S9 h9 => ?_) (fun X S9 h9 => ?_)
  · obtain ⟨x, rfl, h8⟩ := hq v S9 h9
    refine xt_i2l C dL_size_8 rfl ?_
    refine xt_lastN C (by decide) (xt_cl67 _) (by decide) (by decide) dL_size_9 ?_
    refine xt_goto (tgt := 17) C dL_size_10 (by decide) ?_
    refine xt_iconst (v := nI 0) C dL_size_17 rfl ?_
    exact xt_iret C dL_size_18 ⟨Nat.le_of_ble_eq_true rfl, Nat.le_of_ble_eq_true rfl⟩ h8
  · obtain ⟨rfl, h8⟩ := hx X S9 h9
    refine xt_catch (name := "java/lang/IllegalArgumentException") (hh := hh_L_size) (pre := []) (x := (0, 10, 13, 13)) (suf := []) C hx9 rfl (fun _ h => absurd h List.not_mem_nil) (by decide) (by decide) lkcL_13 cst_IAE_IAE (fun q => ?_)
    refine xt_astore C dL_size_13 (Nat.le_of_ble_eq_true rfl) rfl rfl ?_
    refine xt_iconst (v := nI 1) C dL_size_15 rfl ?_
    exact xt_iret C dL_size_16 ⟨Nat.le_of_ble_eq_true rfl, Nat.le_of_ble_eq_true rfl⟩ h8
set_option maxRecDepth 20000 in
set_option maxHeartbeats 1000000 in
theorem wr_setting {a0 a1 : Int32} (hct : xt_CtX E l yX5_setting cX5_setting 4 (some Jvm.ClassFile.FieldType.int) fr lw 1 6 (.ref (E.1 0) :: [.int a0, .int a1]) S Q QX) (hq : ∀ v S', Q v S' → ∃ x : Int32, v = some (.int x) ∧ Q' (some (.int (nI 0))) (xt_sB S' 67 (vp_updL (S'.2.2.1 67) 0 x.toInt64))) (hx : ∀ X S', QX X S' → (X = "java/lang/IllegalArgumentException" ∧ Q' (some (.int (nI 1))) S')) : xt_CtH E l yL_setting cL_setting 5 (some Jvm.ClassFile.FieldType.int) hh_L_setting (fr + 1) (lw + 23) 1 6 [.ref (E.1 0), .int a0, .int a1, .ref (E.1 67)] S Q' := by
  refine xt_bodyH (by decide +kernel) (xt_all rfl) (Nat.le_of_ble_eq_true rfl) (fun cx C hl9 hx9 => ?_)
  show xt_X E cx _ 0 0 0 [some (.ref (E.1 0)), some (.int a0), some (.int a1), some (.ref (E.1 67)), none] [] S
  refine xt_aload_n C dL_setting_0 rfl ?_
  refine xt_iconst (v := nI 0) C dL_setting_1 rfl ?_
  refine xt_aload_n C dL_setting_2 rfl ?_
  refine xt_iload_n C dL_setting_3 rfl ?_
  refine xt_iload_n C dL_setting_4 rfl ?_
  refine xt_callVX C mv_X5_setting lkL_15 (by rw [hl9]; exact hct) rfl (by decide) (xt_cl0 _ _) rfl ⟨Nat.le_refl _, by show 8 + (4 + 11) + lw ≤ lw + 23; omega, Nat.le_of_ble_eq_true rfl, Nat.le_of_ble_eq_true rfl⟩ rfl (Nat.le_of_ble_eq_true rfl) dL_setting_5 (fun v S9 h9 => ?_) (fun X S9 h9 => ?_)
  · obtain ⟨x, rfl, h8⟩ := hq v S9 h9
    refine xt_i2l C dL_setting_8 rfl ?_
    refine xt_lastN C (by decide) (xt_cl67 _) (by decide) (by decide) dL_setting_9 ?_
    refine xt_goto (tgt := 17) C dL_setting_10 (by decide) ?_
    refine xt_iconst (v := nI 0) C dL_setting_17 rfl ?_
    exact xt_iret C dL_setting_18 ⟨Nat.le_of_ble_eq_true rfl, Nat.le_of_ble_eq_true rfl⟩ h8
  · obtain ⟨rfl, h8⟩ := hx X S9 h9
    refine xt_catch (name := "java/lang/IllegalArgumentException") (hh := hh_L_setting) (pre := []) (x := (0, 10, 13, 13)) (suf := []) C hx9 rfl (fun _ h => absurd h List.not_mem_nil) (by decide) (by decide) lkcL_13 cst_IAE_IAE (fun q => ?_)
    refine xt_astore C dL_setting_13 (Nat.le_of_ble_eq_true rfl) rfl rfl ?_
    refine xt_iconst (v := nI 1) C dL_setting_15 rfl ?_
    exact xt_iret C dL_setting_16 ⟨Nat.le_of_ble_eq_true rfl, Nat.le_of_ble_eq_true rfl⟩ h8
set_option maxRecDepth 20000 in
set_option maxHeartbeats 1000000 in
theorem wr_number {a0 : Int32} (hct : xt_CtX E l yX5_number cX5_number 2 (some Jvm.ClassFile.FieldType.int) fr lw 1 6 (.ref (E.1 0) :: [.int a0]) S Q QX) (hq : ∀ v S', Q v S' → ∃ x : Int32, v = some (.int x) ∧ Q' (some (.int (nI 0))) (xt_sB S' 67 (vp_updL (S'.2.2.1 67) 0 x.toInt64))) (hx : ∀ X S', QX X S' → (X = "java/lang/IllegalArgumentException" ∧ Q' (some (.int (nI 1))) S')) : xt_CtH E l yL_number cL_number 4 (some Jvm.ClassFile.FieldType.int) hh_L_number (fr + 1) (lw + 21) 1 6 [.ref (E.1 0), .int a0, .ref (E.1 67)] S Q' := by
  refine xt_bodyH (by decide +kernel) (xt_all rfl) (Nat.le_of_ble_eq_true rfl) (fun cx C hl9 hx9 => ?_)
  show xt_X E cx _ 0 0 0 [some (.ref (E.1 0)), some (.int a0), some (.ref (E.1 67)), none] [] S
  refine xt_aload_n C dL_number_0 rfl ?_
  refine xt_iconst (v := nI 0) C dL_number_1 rfl ?_
  refine xt_aload_n C dL_number_2 rfl ?_
  refine xt_iload_n C dL_number_3 rfl ?_
  refine xt_callVX C mv_X5_number lkL_18 (by rw [hl9]; exact hct) rfl (by decide) (xt_cl0 _ _) rfl ⟨Nat.le_refl _, by show 8 + (2 + 11) + lw ≤ lw + 21; omega, Nat.le_of_ble_eq_true rfl, Nat.le_of_ble_eq_true rfl⟩ rfl (Nat.le_of_ble_eq_true rfl) dL_number_4 (fun v S9 h9 => ?_) (fun X S9 h9 => ?_)
  · obtain ⟨x, rfl, h8⟩ := hq v S9 h9
    refine xt_i2l C dL_number_7 rfl ?_
    refine xt_lastN C (by decide) (xt_cl67 _) (by decide) (by decide) dL_number_8 ?_
    refine xt_goto (tgt := 15) C dL_number_9 (by decide) ?_
    refine xt_iconst (v := nI 0) C dL_number_15 rfl ?_
    exact xt_iret C dL_number_16 ⟨Nat.le_of_ble_eq_true rfl, Nat.le_of_ble_eq_true rfl⟩ h8
  · obtain ⟨rfl, h8⟩ := hx X S9 h9
    refine xt_catch (name := "java/lang/IllegalArgumentException") (hh := hh_L_number) (pre := []) (x := (0, 9, 12, 13)) (suf := []) C hx9 rfl (fun _ h => absurd h List.not_mem_nil) (by decide) (by decide) lkcL_13 cst_IAE_IAE (fun q => ?_)
    refine xt_astore_n C dL_number_12 (Nat.le_of_ble_eq_true rfl) rfl rfl ?_
    refine xt_iconst (v := nI 1) C dL_number_13 rfl ?_
    exact xt_iret C dL_number_14 ⟨Nat.le_of_ble_eq_true rfl, Nat.le_of_ble_eq_true rfl⟩ h8
set_option maxRecDepth 20000 in
set_option maxHeartbeats 1000000 in
theorem wr_set {a0 a1 a2 : Int32} (hct : xt_CtX E l yX5_set cX5_set 6 (some Jvm.ClassFile.FieldType.int) fr lw 1 6 (.ref (E.1 0) :: [.int a0, .int a1, .int a2]) S Q QX) (hq : ∀ v S', Q v S' → ∃ x : Int32, v = some (.int x) ∧ Q' (some (.int (nI 0))) (xt_sB S' 67 (vp_updL (S'.2.2.1 67) 0 x.toInt64))) (hx : ∀ X S', QX X S' → (X = "java/lang/IndexOutOfBoundsException" ∧ Q' (some (.int (nI 1))) S') ∨ (X = "java/lang/IllegalArgumentException" ∧ Q' (some (.int (nI 2))) S')) : xt_CtH E l yL_set cL_set 6 (some Jvm.ClassFile.FieldType.int) hh_L_set (fr + 1) (lw + 25) 1 6 [.ref (E.1 0), .int a0, .int a1, .int a2, .ref (E.1 67)] S Q' := by
  refine xt_bodyH (by decide +kernel) (xt_all rfl) (Nat.le_of_ble_eq_true rfl) (fun cx C hl9 hx9 => ?_)
  show xt_X E cx _ 0 0 0 [some (.ref (E.1 0)), some (.int a0), some (.int a1), some (.int a2), some (.ref (E.1 67)), none] [] S
  refine xt_aload C dL_set_0 rfl ?_
  refine xt_iconst (v := nI 0) C dL_set_2 rfl ?_
  refine xt_aload_n C dL_set_3 rfl ?_
  refine xt_iload_n C dL_set_4 rfl ?_
  refine xt_iload_n C dL_set_5 rfl ?_
  refine xt_iload_n C dL_set_6 rfl ?_
  refine xt_callVX C mv_X5_set lkL_22 (by rw [hl9]; exact hct) rfl (by decide) (xt_cl0 _ _) rfl ⟨Nat.le_refl _, by show 8 + (6 + 11) + lw ≤ lw + 25; omega, Nat.le_of_ble_eq_true rfl, Nat.le_of_ble_eq_true rfl⟩ rfl (Nat.le_of_ble_eq_true rfl) dL_set_7 (fun v S9 h9 => ?_) (fun X S9 h9 => ?_)
  · obtain ⟨x, rfl, h8⟩ := hq v S9 h9
    refine xt_i2l C dL_set_10 rfl ?_
    refine xt_lastN C (by decide) (xt_cl67 _) (by decide) (by decide) dL_set_11 ?_
    refine xt_goto (tgt := 23) C dL_set_12 (by decide) ?_
    refine xt_iconst (v := nI 0) C dL_set_23 rfl ?_
    exact xt_iret C dL_set_24 ⟨Nat.le_of_ble_eq_true rfl, Nat.le_of_ble_eq_true rfl⟩ h8
  · rcases hx X S9 h9 with ⟨rfl, h8⟩ | ⟨rfl, h8⟩
    · skip
      refine xt_catch (name := "java/lang/IndexOutOfBoundsException") (hh := hh_L_set) (pre := []) (x := (0, 12, 15, 26)) (suf := [(0, 12, 19, 13)]) C hx9 rfl (fun _ h => absurd h List.not_mem_nil) (by decide) (by decide) lkcL_26 cst_IOOBE_IOOBE (fun q => ?_)
      refine xt_astore C dL_set_15 (Nat.le_of_ble_eq_true rfl) rfl rfl ?_
      refine xt_iconst (v := nI 1) C dL_set_17 rfl ?_
      exact xt_iret C dL_set_18 ⟨Nat.le_of_ble_eq_true rfl, Nat.le_of_ble_eq_true rfl⟩ h8
    · skip
      refine xt_catch (name := "java/lang/IllegalArgumentException") (hh := hh_L_set) (pre := [(0, 12, 15, 26)]) (x := (0, 12, 19, 13)) (suf := []) C hx9 rfl (List.forall_mem_cons.mpr ⟨⟨"java/lang/IndexOutOfBoundsException", by decide, lkcL_26, List.mem_of_getElem? (i := 0) rfl⟩, fun _ h => absurd h List.not_mem_nil⟩) (by decide) (by decide) lkcL_13 cst_IAE_IAE (fun q => ?_)
      refine xt_astore C dL_set_19 (Nat.le_of_ble_eq_true rfl) rfl rfl ?_
      refine xt_iconst (v := nI 2) C dL_set_21 rfl ?_
      exact xt_iret C dL_set_22 ⟨Nat.le_of_ble_eq_true rfl, Nat.le_of_ble_eq_true rfl⟩ h8
set_option maxRecDepth 20000 in
set_option maxHeartbeats 1000000 in
theorem wr_pixel {a0 a1 : Int32} (hct : xt_CtX E l yX5_pixel cX5_pixel 3 (some Jvm.ClassFile.FieldType.int) fr lw 1 6 (.ref (E.1 0) :: [.int a0, .int a1]) S Q QX) (hq : ∀ v S', Q v S' → ∃ x : Int32, v = some (.int x) ∧ Q' (some (.int (nI 0))) (xt_sB S' 67 (vp_updL (S'.2.2.1 67) 0 x.toInt64))) (hx : ∀ X S', QX X S' → (X = "java/lang/IndexOutOfBoundsException" ∧ Q' (some (.int (nI 1))) S')) : xt_CtH E l yL_pixel cL_pixel 5 (some Jvm.ClassFile.FieldType.int) hh_L_pixel (fr + 1) (lw + 22) 1 6 [.ref (E.1 0), .int a0, .int a1, .ref (E.1 67)] S Q' := by
  refine xt_bodyH (by decide +kernel) (xt_all rfl) (Nat.le_of_ble_eq_true rfl) (fun cx C hl9 hx9 => ?_)
  show xt_X E cx _ 0 0 0 [some (.ref (E.1 0)), some (.int a0), some (.int a1), some (.ref (E.1 67)), none] [] S
  refine xt_aload_n C dL_pixel_0 rfl ?_
  refine xt_iconst (v := nI 0) C dL_pixel_1 rfl ?_
  refine xt_aload_n C dL_pixel_2 rfl ?_
  refine xt_iload_n C dL_pixel_3 rfl ?_
  refine xt_iload_n C dL_pixel_4 rfl ?_
  refine xt_callVX C mv_X5_pixel lkL_28 (by rw [hl9]; exact hct) rfl (by decide) (xt_cl0 _ _) rfl ⟨Nat.le_refl _, by show 8 + (3 + 11) + lw ≤ lw + 22; omega, Nat.le_of_ble_eq_true rfl, Nat.le_of_ble_eq_true rfl⟩ rfl (Nat.le_of_ble_eq_true rfl) dL_pixel_5 (fun v S9 h9 => ?_) (fun X S9 h9 => ?_)
  · obtain ⟨x, rfl, h8⟩ := hq v S9 h9
    refine xt_i2l C dL_pixel_8 rfl ?_
    refine xt_lastN C (by decide) (xt_cl67 _) (by decide) (by decide) dL_pixel_9 ?_
    refine xt_goto (tgt := 17) C dL_pixel_10 (by decide) ?_
    refine xt_iconst (v := nI 0) C dL_pixel_17 rfl ?_
    exact xt_iret C dL_pixel_18 ⟨Nat.le_of_ble_eq_true rfl, Nat.le_of_ble_eq_true rfl⟩ h8
  · obtain ⟨rfl, h8⟩ := hx X S9 h9
    refine xt_catch (name := "java/lang/IndexOutOfBoundsException") (hh := hh_L_pixel) (pre := []) (x := (0, 10, 13, 26)) (suf := []) C hx9 rfl (fun _ h => absurd h List.not_mem_nil) (by decide) (by decide) lkcL_26 cst_IOOBE_IOOBE (fun q => ?_)
    refine xt_astore C dL_pixel_13 (Nat.le_of_ble_eq_true rfl) rfl rfl ?_
    refine xt_iconst (v := nI 1) C dL_pixel_15 rfl ?_
    exact xt_iret C dL_pixel_16 ⟨Nat.le_of_ble_eq_true rfl, Nat.le_of_ble_eq_true rfl⟩ h8
set_option maxRecDepth 20000 in
set_option maxHeartbeats 1000000 in
theorem wr_fill {a0 a1 a2 a3 a4 : Int32} (hct : xt_CtX E l yX5_fill cX5_fill 6 (some Jvm.ClassFile.FieldType.int) fr lw 1 6 (.ref (E.1 0) :: [.int a0, .int a1, .int a2, .int a3, .int a4]) S Q QX) (hq : ∀ v S', Q v S' → ∃ x : Int32, v = some (.int x) ∧ Q' (some (.int (nI 0))) (xt_sB S' 67 (vp_updL (S'.2.2.1 67) 0 x.toInt64))) (hx : ∀ X S', QX X S' → (X = "java/lang/IndexOutOfBoundsException" ∧ Q' (some (.int (nI 1))) S') ∨ (X = "java/lang/IllegalArgumentException" ∧ Q' (some (.int (nI 2))) S')) : xt_CtH E l yL_fill cL_fill 8 (some Jvm.ClassFile.FieldType.int) hh_L_fill (fr + 1) (lw + 25) 1 6 [.ref (E.1 0), .int a0, .int a1, .int a2, .int a3, .int a4, .ref (E.1 67)] S Q' := by
  refine xt_bodyH (by decide +kernel) (xt_all rfl) (Nat.le_of_ble_eq_true rfl) (fun cx C hl9 hx9 => ?_)
  show xt_X E cx _ 0 0 0 [some (.ref (E.1 0)), some (.int a0), some (.int a1), some (.int a2), some (.int a3), some (.int a4), some (.ref (E.1 67)), none] [] S
  refine xt_aload C dL_fill_0 rfl ?_
  refine xt_iconst (v := nI 0) C dL_fill_2 rfl ?_
  refine xt_aload_n C dL_fill_3 rfl ?_
  refine xt_iload_n C dL_fill_4 rfl ?_
  refine xt_iload_n C dL_fill_5 rfl ?_
  refine xt_iload_n C dL_fill_6 rfl ?_
  refine xt_iload C dL_fill_7 rfl ?_
  refine xt_iload C dL_fill_9 rfl ?_
  refine xt_callVX C mv_X5_fill lkL_31 (by rw [hl9]; exact hct) rfl (by decide) (xt_cl0 _ _) rfl ⟨Nat.le_refl _, by show 8 + (6 + 11) + lw ≤ lw + 25; omega, Nat.le_of_ble_eq_true rfl, Nat.le_of_ble_eq_true rfl⟩ rfl (Nat.le_of_ble_eq_true rfl) dL_fill_11 (fun v S9 h9 => ?_) (fun X S9 h9 => ?_)
  · obtain ⟨x, rfl, h8⟩ := hq v S9 h9
    refine xt_i2l C dL_fill_14 rfl ?_
    refine xt_lastN C (by decide) (xt_cl67 _) (by decide) (by decide) dL_fill_15 ?_
    refine xt_goto (tgt := 27) C dL_fill_16 (by decide) ?_
    refine xt_iconst (v := nI 0) C dL_fill_27 rfl ?_
    exact xt_iret C dL_fill_28 ⟨Nat.le_of_ble_eq_true rfl, Nat.le_of_ble_eq_true rfl⟩ h8
  · rcases hx X S9 h9 with ⟨rfl, h8⟩ | ⟨rfl, h8⟩
    · skip
      refine xt_catch (name := "java/lang/IndexOutOfBoundsException") (hh := hh_L_fill) (pre := []) (x := (0, 16, 19, 26)) (suf := [(0, 16, 23, 13)]) C hx9 rfl (fun _ h => absurd h List.not_mem_nil) (by decide) (by decide) lkcL_26 cst_IOOBE_IOOBE (fun q => ?_)
      refine xt_astore C dL_fill_19 (Nat.le_of_ble_eq_true rfl) rfl rfl ?_
      refine xt_iconst (v := nI 1) C dL_fill_21 rfl ?_
      exact xt_iret C dL_fill_22 ⟨Nat.le_of_ble_eq_true rfl, Nat.le_of_ble_eq_true rfl⟩ h8
    · skip
      refine xt_catch (name := "java/lang/IllegalArgumentException") (hh := hh_L_fill) (pre := [(0, 16, 19, 26)]) (x := (0, 16, 23, 13)) (suf := []) C hx9 rfl (List.forall_mem_cons.mpr ⟨⟨"java/lang/IndexOutOfBoundsException", by decide, lkcL_26, List.mem_of_getElem? (i := 0) rfl⟩, fun _ h => absurd h List.not_mem_nil⟩) (by decide) (by decide) lkcL_13 cst_IAE_IAE (fun q => ?_)
      refine xt_astore C dL_fill_23 (Nat.le_of_ble_eq_true rfl) rfl rfl ?_
      refine xt_iconst (v := nI 2) C dL_fill_25 rfl ?_
      exact xt_iret C dL_fill_26 ⟨Nat.le_of_ble_eq_true rfl, Nat.le_of_ble_eq_true rfl⟩ h8
set_option maxRecDepth 20000 in
set_option maxHeartbeats 1000000 in
theorem wr_mask {a0 a1 a2 a3 a4 : Int32} (hct : xt_CtX E l yX5_mask cX5_mask 6 (some Jvm.ClassFile.FieldType.int) fr lw 1 6 (.ref (E.1 0) :: [.int a0, .int a1, .int a2, .int a3, .int a4]) S Q QX) (hq : ∀ v S', Q v S' → ∃ x : Int32, v = some (.int x) ∧ Q' (some (.int (nI 0))) (xt_sB S' 67 (vp_updL (S'.2.2.1 67) 0 x.toInt64))) (hx : ∀ X S', QX X S' → (X = "java/lang/IndexOutOfBoundsException" ∧ Q' (some (.int (nI 1))) S') ∨ (X = "java/lang/IllegalArgumentException" ∧ Q' (some (.int (nI 2))) S')) : xt_CtH E l yL_mask cL_mask 8 (some Jvm.ClassFile.FieldType.int) hh_L_mask (fr + 1) (lw + 25) 1 6 [.ref (E.1 0), .int a0, .int a1, .int a2, .int a3, .int a4, .ref (E.1 67)] S Q' := by
  refine xt_bodyH (by decide +kernel) (xt_all rfl) (Nat.le_of_ble_eq_true rfl) (fun cx C hl9 hx9 => ?_)
  show xt_X E cx _ 0 0 0 [some (.ref (E.1 0)), some (.int a0), some (.int a1), some (.int a2), some (.int a3), some (.int a4), some (.ref (E.1 67)), none] [] S
  refine xt_aload C dL_mask_0 rfl ?_
  refine xt_iconst (v := nI 0) C dL_mask_2 rfl ?_
  refine xt_aload_n C dL_mask_3 rfl ?_
  refine xt_iload_n C dL_mask_4 rfl ?_
  refine xt_iload_n C dL_mask_5 rfl ?_
  refine xt_iload_n C dL_mask_6 rfl ?_
  refine xt_iload C dL_mask_7 rfl ?_
  refine xt_iload C dL_mask_9 rfl ?_
  refine xt_callVX C mv_X5_mask lkL_35 (by rw [hl9]; exact hct) rfl (by decide) (xt_cl0 _ _) rfl ⟨Nat.le_refl _, by show 8 + (6 + 11) + lw ≤ lw + 25; omega, Nat.le_of_ble_eq_true rfl, Nat.le_of_ble_eq_true rfl⟩ rfl (Nat.le_of_ble_eq_true rfl) dL_mask_11 (fun v S9 h9 => ?_) (fun X S9 h9 => ?_)
  · obtain ⟨x, rfl, h8⟩ := hq v S9 h9
    refine xt_i2l C dL_mask_14 rfl ?_
    refine xt_lastN C (by decide) (xt_cl67 _) (by decide) (by decide) dL_mask_15 ?_
    refine xt_goto (tgt := 27) C dL_mask_16 (by decide) ?_
    refine xt_iconst (v := nI 0) C dL_mask_27 rfl ?_
    exact xt_iret C dL_mask_28 ⟨Nat.le_of_ble_eq_true rfl, Nat.le_of_ble_eq_true rfl⟩ h8
  · rcases hx X S9 h9 with ⟨rfl, h8⟩ | ⟨rfl, h8⟩
    · skip
      refine xt_catch (name := "java/lang/IndexOutOfBoundsException") (hh := hh_L_mask) (pre := []) (x := (0, 16, 19, 26)) (suf := [(0, 16, 23, 13)]) C hx9 rfl (fun _ h => absurd h List.not_mem_nil) (by decide) (by decide) lkcL_26 cst_IOOBE_IOOBE (fun q => ?_)
      refine xt_astore C dL_mask_19 (Nat.le_of_ble_eq_true rfl) rfl rfl ?_
      refine xt_iconst (v := nI 1) C dL_mask_21 rfl ?_
      exact xt_iret C dL_mask_22 ⟨Nat.le_of_ble_eq_true rfl, Nat.le_of_ble_eq_true rfl⟩ h8
    · skip
      refine xt_catch (name := "java/lang/IllegalArgumentException") (hh := hh_L_mask) (pre := [(0, 16, 19, 26)]) (x := (0, 16, 23, 13)) (suf := []) C hx9 rfl (List.forall_mem_cons.mpr ⟨⟨"java/lang/IndexOutOfBoundsException", by decide, lkcL_26, List.mem_of_getElem? (i := 0) rfl⟩, fun _ h => absurd h List.not_mem_nil⟩) (by decide) (by decide) lkcL_13 cst_IAE_IAE (fun q => ?_)
      refine xt_astore C dL_mask_23 (Nat.le_of_ble_eq_true rfl) rfl rfl ?_
      refine xt_iconst (v := nI 2) C dL_mask_25 rfl ?_
      exact xt_iret C dL_mask_26 ⟨Nat.le_of_ble_eq_true rfl, Nat.le_of_ble_eq_true rfl⟩ h8
set_option maxRecDepth 20000 in
set_option maxHeartbeats 1000000 in
theorem wr_tileOf {a0 a1 : Int32} (hct : xt_CtX E l yX5_tileOf cX5_tileOf 3 (some Jvm.ClassFile.FieldType.int) fr lw 1 6 (.ref (E.1 0) :: [.int a0, .int a1]) S Q QX) (hq : ∀ v S', Q v S' → ∃ x : Int32, v = some (.int x) ∧ Q' (some (.int (nI 0))) (xt_sB S' 67 (vp_updL (S'.2.2.1 67) 0 x.toInt64))) (hx : ∀ X S', QX X S' → (X = "java/lang/IndexOutOfBoundsException" ∧ Q' (some (.int (nI 1))) S')) : xt_CtH E l yL_tileOf cL_tileOf 5 (some Jvm.ClassFile.FieldType.int) hh_L_tileOf (fr + 1) (lw + 22) 1 6 [.ref (E.1 0), .int a0, .int a1, .ref (E.1 67)] S Q' := by
  refine xt_bodyH (by decide +kernel) (xt_all rfl) (Nat.le_of_ble_eq_true rfl) (fun cx C hl9 hx9 => ?_)
  show xt_X E cx _ 0 0 0 [some (.ref (E.1 0)), some (.int a0), some (.int a1), some (.ref (E.1 67)), none] [] S
  refine xt_aload_n C dL_tileOf_0 rfl ?_
  refine xt_iconst (v := nI 0) C dL_tileOf_1 rfl ?_
  refine xt_aload_n C dL_tileOf_2 rfl ?_
  refine xt_iload_n C dL_tileOf_3 rfl ?_
  refine xt_iload_n C dL_tileOf_4 rfl ?_
  refine xt_callVX C mv_X5_tileOf lkL_39 (by rw [hl9]; exact hct) rfl (by decide) (xt_cl0 _ _) rfl ⟨Nat.le_refl _, by show 8 + (3 + 11) + lw ≤ lw + 22; omega, Nat.le_of_ble_eq_true rfl, Nat.le_of_ble_eq_true rfl⟩ rfl (Nat.le_of_ble_eq_true rfl) dL_tileOf_5 (fun v S9 h9 => ?_) (fun X S9 h9 => ?_)
  · obtain ⟨x, rfl, h8⟩ := hq v S9 h9
    refine xt_i2l C dL_tileOf_8 rfl ?_
    refine xt_lastN C (by decide) (xt_cl67 _) (by decide) (by decide) dL_tileOf_9 ?_
    refine xt_goto (tgt := 17) C dL_tileOf_10 (by decide) ?_
    refine xt_iconst (v := nI 0) C dL_tileOf_17 rfl ?_
    exact xt_iret C dL_tileOf_18 ⟨Nat.le_of_ble_eq_true rfl, Nat.le_of_ble_eq_true rfl⟩ h8
  · obtain ⟨rfl, h8⟩ := hx X S9 h9
    refine xt_catch (name := "java/lang/IndexOutOfBoundsException") (hh := hh_L_tileOf) (pre := []) (x := (0, 10, 13, 26)) (suf := []) C hx9 rfl (fun _ h => absurd h List.not_mem_nil) (by decide) (by decide) lkcL_26 cst_IOOBE_IOOBE (fun q => ?_)
    refine xt_astore C dL_tileOf_13 (Nat.le_of_ble_eq_true rfl) rfl rfl ?_
    refine xt_iconst (v := nI 1) C dL_tileOf_15 rfl ?_
    exact xt_iret C dL_tileOf_16 ⟨Nat.le_of_ble_eq_true rfl, Nat.le_of_ble_eq_true rfl⟩ h8
set_option maxRecDepth 20000 in
set_option maxHeartbeats 1000000 in
theorem wr_tile {a0 a1 : Int32} (hct : xt_CtX E l yX5_tile cX5_tile 3 (some Jvm.ClassFile.FieldType.int) fr lw 1 6 (.ref (E.1 0) :: [.int a0, .int a1]) S Q QX) (hq : ∀ v S', Q v S' → ∃ x : Int32, v = some (.int x) ∧ Q' (some (.int (nI 0))) (xt_sB S' 67 (vp_updL (S'.2.2.1 67) 0 x.toInt64))) (hx : ∀ X S', QX X S' → (X = "java/lang/IndexOutOfBoundsException" ∧ Q' (some (.int (nI 1))) S') ∨ (X = "java/lang/IllegalArgumentException" ∧ Q' (some (.int (nI 2))) S')) : xt_CtH E l yL_tile cL_tile 5 (some Jvm.ClassFile.FieldType.int) hh_L_tile (fr + 1) (lw + 22) 1 6 [.ref (E.1 0), .int a0, .int a1, .ref (E.1 67)] S Q' := by
  refine xt_bodyH (by decide +kernel) (xt_all rfl) (Nat.le_of_ble_eq_true rfl) (fun cx C hl9 hx9 => ?_)
  show xt_X E cx _ 0 0 0 [some (.ref (E.1 0)), some (.int a0), some (.int a1), some (.ref (E.1 67)), none] [] S
  refine xt_aload_n C dL_tile_0 rfl ?_
  refine xt_iconst (v := nI 0) C dL_tile_1 rfl ?_
  refine xt_aload_n C dL_tile_2 rfl ?_
  refine xt_iload_n C dL_tile_3 rfl ?_
  refine xt_iload_n C dL_tile_4 rfl ?_
  refine xt_callVX C mv_X5_tile lkL_42 (by rw [hl9]; exact hct) rfl (by decide) (xt_cl0 _ _) rfl ⟨Nat.le_refl _, by show 8 + (3 + 11) + lw ≤ lw + 22; omega, Nat.le_of_ble_eq_true rfl, Nat.le_of_ble_eq_true rfl⟩ rfl (Nat.le_of_ble_eq_true rfl) dL_tile_5 (fun v S9 h9 => ?_) (fun X S9 h9 => ?_)
  · obtain ⟨x, rfl, h8⟩ := hq v S9 h9
    refine xt_i2l C dL_tile_8 rfl ?_
    refine xt_lastN C (by decide) (xt_cl67 _) (by decide) (by decide) dL_tile_9 ?_
    refine xt_goto (tgt := 21) C dL_tile_10 (by decide) ?_
    refine xt_iconst (v := nI 0) C dL_tile_21 rfl ?_
    exact xt_iret C dL_tile_22 ⟨Nat.le_of_ble_eq_true rfl, Nat.le_of_ble_eq_true rfl⟩ h8
  · rcases hx X S9 h9 with ⟨rfl, h8⟩ | ⟨rfl, h8⟩
    · skip
      refine xt_catch (name := "java/lang/IndexOutOfBoundsException") (hh := hh_L_tile) (pre := []) (x := (0, 10, 13, 26)) (suf := [(0, 10, 17, 13)]) C hx9 rfl (fun _ h => absurd h List.not_mem_nil) (by decide) (by decide) lkcL_26 cst_IOOBE_IOOBE (fun q => ?_)
      refine xt_astore C dL_tile_13 (Nat.le_of_ble_eq_true rfl) rfl rfl ?_
      refine xt_iconst (v := nI 1) C dL_tile_15 rfl ?_
      exact xt_iret C dL_tile_16 ⟨Nat.le_of_ble_eq_true rfl, Nat.le_of_ble_eq_true rfl⟩ h8
    · skip
      refine xt_catch (name := "java/lang/IllegalArgumentException") (hh := hh_L_tile) (pre := [(0, 10, 13, 26)]) (x := (0, 10, 17, 13)) (suf := []) C hx9 rfl (List.forall_mem_cons.mpr ⟨⟨"java/lang/IndexOutOfBoundsException", by decide, lkcL_26, List.mem_of_getElem? (i := 0) rfl⟩, fun _ h => absurd h List.not_mem_nil⟩) (by decide) (by decide) lkcL_13 cst_IAE_IAE (fun q => ?_)
      refine xt_astore C dL_tile_17 (Nat.le_of_ble_eq_true rfl) rfl rfl ?_
      refine xt_iconst (v := nI 2) C dL_tile_19 rfl ?_
      exact xt_iret C dL_tile_20 ⟨Nat.le_of_ble_eq_true rfl, Nat.le_of_ble_eq_true rfl⟩ h8
set_option maxRecDepth 20000 in
set_option maxHeartbeats 1000000 in
theorem wr_raise {a0 a1 : Int32} (hct : xt_CtX E l yX5_raise cX5_raise 4 (some Jvm.ClassFile.FieldType.int) fr lw 1 6 (.ref (E.1 0) :: [.int a0, .int a1]) S Q QX) (hq : ∀ v S', Q v S' → ∃ x : Int32, v = some (.int x) ∧ Q' (some (.int (nI 0))) (xt_sB S' 67 (vp_updL (S'.2.2.1 67) 0 x.toInt64))) (hx : ∀ X S', QX X S' → (X = "java/lang/IndexOutOfBoundsException" ∧ Q' (some (.int (nI 1))) S') ∨ (X = "java/lang/IllegalArgumentException" ∧ Q' (some (.int (nI 2))) S') ∨ (X = "java/lang/UnsupportedOperationException" ∧ Q' (some (.int (nI 3))) S')) : xt_CtH E l yL_raise cL_raise 5 (some Jvm.ClassFile.FieldType.int) hh_L_raise (fr + 1) (lw + 23) 1 6 [.ref (E.1 0), .int a0, .int a1, .ref (E.1 67)] S Q' := by
  refine xt_bodyH (by decide +kernel) (xt_all rfl) (Nat.le_of_ble_eq_true rfl) (fun cx C hl9 hx9 => ?_)
  show xt_X E cx _ 0 0 0 [some (.ref (E.1 0)), some (.int a0), some (.int a1), some (.ref (E.1 67)), none] [] S
  refine xt_aload_n C dL_raise_0 rfl ?_
  refine xt_iconst (v := nI 0) C dL_raise_1 rfl ?_
  refine xt_aload_n C dL_raise_2 rfl ?_
  refine xt_iload_n C dL_raise_3 rfl ?_
  refine xt_iload_n C dL_raise_4 rfl ?_
  refine xt_callVX C mv_X5_raise lkL_45 (by rw [hl9]; exact hct) rfl (by decide) (xt_cl0 _ _) rfl ⟨Nat.le_refl _, by show 8 + (4 + 11) + lw ≤ lw + 23; omega, Nat.le_of_ble_eq_true rfl, Nat.le_of_ble_eq_true rfl⟩ rfl (Nat.le_of_ble_eq_true rfl) dL_raise_5 (fun v S9 h9 => ?_) (fun X S9 h9 => ?_)
  · obtain ⟨x, rfl, h8⟩ := hq v S9 h9
    refine xt_i2l C dL_raise_8 rfl ?_
    refine xt_lastN C (by decide) (xt_cl67 _) (by decide) (by decide) dL_raise_9 ?_
    refine xt_goto (tgt := 25) C dL_raise_10 (by decide) ?_
    refine xt_iconst (v := nI 0) C dL_raise_25 rfl ?_
    exact xt_iret C dL_raise_26 ⟨Nat.le_of_ble_eq_true rfl, Nat.le_of_ble_eq_true rfl⟩ h8
  · rcases hx X S9 h9 with ⟨rfl, h8⟩ | ⟨rfl, h8⟩ | ⟨rfl, h8⟩
    · skip
      refine xt_catch (name := "java/lang/IndexOutOfBoundsException") (hh := hh_L_raise) (pre := []) (x := (0, 10, 13, 26)) (suf := [(0, 10, 17, 13), (0, 10, 21, 48)]) C hx9 rfl (fun _ h => absurd h List.not_mem_nil) (by decide) (by decide) lkcL_26 cst_IOOBE_IOOBE (fun q => ?_)
      refine xt_astore C dL_raise_13 (Nat.le_of_ble_eq_true rfl) rfl rfl ?_
      refine xt_iconst (v := nI 1) C dL_raise_15 rfl ?_
      exact xt_iret C dL_raise_16 ⟨Nat.le_of_ble_eq_true rfl, Nat.le_of_ble_eq_true rfl⟩ h8
    · skip
      refine xt_catch (name := "java/lang/IllegalArgumentException") (hh := hh_L_raise) (pre := [(0, 10, 13, 26)]) (x := (0, 10, 17, 13)) (suf := [(0, 10, 21, 48)]) C hx9 rfl (List.forall_mem_cons.mpr ⟨⟨"java/lang/IndexOutOfBoundsException", by decide, lkcL_26, List.mem_of_getElem? (i := 0) rfl⟩, fun _ h => absurd h List.not_mem_nil⟩) (by decide) (by decide) lkcL_13 cst_IAE_IAE (fun q => ?_)
      refine xt_astore C dL_raise_17 (Nat.le_of_ble_eq_true rfl) rfl rfl ?_
      refine xt_iconst (v := nI 2) C dL_raise_19 rfl ?_
      exact xt_iret C dL_raise_20 ⟨Nat.le_of_ble_eq_true rfl, Nat.le_of_ble_eq_true rfl⟩ h8
    · skip
      refine xt_catch (name := "java/lang/UnsupportedOperationException") (hh := hh_L_raise) (pre := [(0, 10, 13, 26), (0, 10, 17, 13)]) (x := (0, 10, 21, 48)) (suf := []) C hx9 rfl (List.forall_mem_cons.mpr ⟨⟨"java/lang/IndexOutOfBoundsException", by decide, lkcL_26, List.mem_of_getElem? (i := 1) rfl⟩, List.forall_mem_cons.mpr ⟨⟨"java/lang/IllegalArgumentException", by decide, lkcL_13, List.mem_of_getElem? (i := 2) rfl⟩, fun _ h => absurd h List.not_mem_nil⟩⟩) (by decide) (by decide) lkcL_48 cst_UOE_UOE (fun q => ?_)
      refine xt_astore C dL_raise_21 (Nat.le_of_ble_eq_true rfl) rfl rfl ?_
      refine xt_iconst (v := nI 3) C dL_raise_23 rfl ?_
      exact xt_iret C dL_raise_24 ⟨Nat.le_of_ble_eq_true rfl, Nat.le_of_ble_eq_true rfl⟩ h8
set_option maxRecDepth 20000 in
set_option maxHeartbeats 1000000 in
theorem wr_swap {a0 a1 : Int32} (hct : xt_CtX E l yX5_swap cX5_swap 3 (some Jvm.ClassFile.FieldType.int) fr lw 1 6 (.ref (E.1 0) :: [.int a0, .int a1]) S Q QX) (hq : ∀ v S', Q v S' → ∃ x : Int32, v = some (.int x) ∧ Q' (some (.int (nI 0))) (xt_sB S' 67 (vp_updL (S'.2.2.1 67) 0 x.toInt64))) (hx : ∀ X S', QX X S' → (X = "java/lang/IndexOutOfBoundsException" ∧ Q' (some (.int (nI 1))) S') ∨ (X = "java/lang/UnsupportedOperationException" ∧ Q' (some (.int (nI 2))) S')) : xt_CtH E l yL_swap cL_swap 5 (some Jvm.ClassFile.FieldType.int) hh_L_swap (fr + 1) (lw + 22) 1 6 [.ref (E.1 0), .int a0, .int a1, .ref (E.1 67)] S Q' := by
  refine xt_bodyH (by decide +kernel) (xt_all rfl) (Nat.le_of_ble_eq_true rfl) (fun cx C hl9 hx9 => ?_)
  show xt_X E cx _ 0 0 0 [some (.ref (E.1 0)), some (.int a0), some (.int a1), some (.ref (E.1 67)), none] [] S
  refine xt_aload_n C dL_swap_0 rfl ?_
  refine xt_iconst (v := nI 0) C dL_swap_1 rfl ?_
  refine xt_aload_n C dL_swap_2 rfl ?_
  refine xt_iload_n C dL_swap_3 rfl ?_
  refine xt_iload_n C dL_swap_4 rfl ?_
  refine xt_callVX C mv_X5_swap lkL_50 (by rw [hl9]; exact hct) rfl (by decide) (xt_cl0 _ _) rfl ⟨Nat.le_refl _, by show 8 + (3 + 11) + lw ≤ lw + 22; omega, Nat.le_of_ble_eq_true rfl, Nat.le_of_ble_eq_true rfl⟩ rfl (Nat.le_of_ble_eq_true rfl) dL_swap_5 (fun v S9 h9 => ?_) (fun X S9 h9 => ?_)
  · obtain ⟨x, rfl, h8⟩ := hq v S9 h9
    refine xt_i2l C dL_swap_8 rfl ?_
    refine xt_lastN C (by decide) (xt_cl67 _) (by decide) (by decide) dL_swap_9 ?_
    refine xt_goto (tgt := 21) C dL_swap_10 (by decide) ?_
    refine xt_iconst (v := nI 0) C dL_swap_21 rfl ?_
    exact xt_iret C dL_swap_22 ⟨Nat.le_of_ble_eq_true rfl, Nat.le_of_ble_eq_true rfl⟩ h8
  · rcases hx X S9 h9 with ⟨rfl, h8⟩ | ⟨rfl, h8⟩
    · skip
      refine xt_catch (name := "java/lang/IndexOutOfBoundsException") (hh := hh_L_swap) (pre := []) (x := (0, 10, 13, 26)) (suf := [(0, 10, 17, 48)]) C hx9 rfl (fun _ h => absurd h List.not_mem_nil) (by decide) (by decide) lkcL_26 cst_IOOBE_IOOBE (fun q => ?_)
      refine xt_astore C dL_swap_13 (Nat.le_of_ble_eq_true rfl) rfl rfl ?_
      refine xt_iconst (v := nI 1) C dL_swap_15 rfl ?_
      exact xt_iret C dL_swap_16 ⟨Nat.le_of_ble_eq_true rfl, Nat.le_of_ble_eq_true rfl⟩ h8
    · skip
      refine xt_catch (name := "java/lang/UnsupportedOperationException") (hh := hh_L_swap) (pre := [(0, 10, 13, 26)]) (x := (0, 10, 17, 48)) (suf := []) C hx9 rfl (List.forall_mem_cons.mpr ⟨⟨"java/lang/IndexOutOfBoundsException", by decide, lkcL_26, List.mem_of_getElem? (i := 1) rfl⟩, fun _ h => absurd h List.not_mem_nil⟩) (by decide) (by decide) lkcL_48 cst_UOE_UOE (fun q => ?_)
      refine xt_astore C dL_swap_17 (Nat.le_of_ble_eq_true rfl) rfl rfl ?_
      refine xt_iconst (v := nI 2) C dL_swap_19 rfl ?_
      exact xt_iret C dL_swap_20 ⟨Nat.le_of_ble_eq_true rfl, Nat.le_of_ble_eq_true rfl⟩ h8
set_option maxRecDepth 20000 in
set_option maxHeartbeats 1000000 in
theorem wr_soften {a0 a1 : Int32} (hct : xt_CtX E l yX5_soften cX5_soften 3 (some Jvm.ClassFile.FieldType.int) fr lw 1 6 (.ref (E.1 0) :: [.int a0, .int a1]) S Q QX) (hq : ∀ v S', Q v S' → ∃ x : Int32, v = some (.int x) ∧ Q' (some (.int (nI 0))) (xt_sB S' 67 (vp_updL (S'.2.2.1 67) 0 x.toInt64))) (hx : ∀ X S', QX X S' → (X = "java/lang/IndexOutOfBoundsException" ∧ Q' (some (.int (nI 1))) S') ∨ (X = "java/lang/IllegalArgumentException" ∧ Q' (some (.int (nI 2))) S')) : xt_CtH E l yL_soften cL_soften 5 (some Jvm.ClassFile.FieldType.int) hh_L_soften (fr + 1) (lw + 22) 1 6 [.ref (E.1 0), .int a0, .int a1, .ref (E.1 67)] S Q' := by
  refine xt_bodyH (by decide +kernel) (xt_all rfl) (Nat.le_of_ble_eq_true rfl) (fun cx C hl9 hx9 => ?_)
  show xt_X E cx _ 0 0 0 [some (.ref (E.1 0)), some (.int a0), some (.int a1), some (.ref (E.1 67)), none] [] S
  refine xt_aload_n C dL_soften_0 rfl ?_
  refine xt_iconst (v := nI 0) C dL_soften_1 rfl ?_
  refine xt_aload_n C dL_soften_2 rfl ?_
  refine xt_iload_n C dL_soften_3 rfl ?_
  refine xt_iload_n C dL_soften_4 rfl ?_
  refine xt_callVX C mv_X5_soften lkL_53 (by rw [hl9]; exact hct) rfl (by decide) (xt_cl0 _ _) rfl ⟨Nat.le_refl _, by show 8 + (3 + 11) + lw ≤ lw + 22; omega, Nat.le_of_ble_eq_true rfl, Nat.le_of_ble_eq_true rfl⟩ rfl (Nat.le_of_ble_eq_true rfl) dL_soften_5 (fun v S9 h9 => ?_) (fun X S9 h9 => ?_)
  · obtain ⟨x, rfl, h8⟩ := hq v S9 h9
    refine xt_i2l C dL_soften_8 rfl ?_
    refine xt_lastN C (by decide) (xt_cl67 _) (by decide) (by decide) dL_soften_9 ?_
    refine xt_goto (tgt := 21) C dL_soften_10 (by decide) ?_
    refine xt_iconst (v := nI 0) C dL_soften_21 rfl ?_
    exact xt_iret C dL_soften_22 ⟨Nat.le_of_ble_eq_true rfl, Nat.le_of_ble_eq_true rfl⟩ h8
  · rcases hx X S9 h9 with ⟨rfl, h8⟩ | ⟨rfl, h8⟩
    · skip
      refine xt_catch (name := "java/lang/IndexOutOfBoundsException") (hh := hh_L_soften) (pre := []) (x := (0, 10, 13, 26)) (suf := [(0, 10, 17, 13)]) C hx9 rfl (fun _ h => absurd h List.not_mem_nil) (by decide) (by decide) lkcL_26 cst_IOOBE_IOOBE (fun q => ?_)
      refine xt_astore C dL_soften_13 (Nat.le_of_ble_eq_true rfl) rfl rfl ?_
      refine xt_iconst (v := nI 1) C dL_soften_15 rfl ?_
      exact xt_iret C dL_soften_16 ⟨Nat.le_of_ble_eq_true rfl, Nat.le_of_ble_eq_true rfl⟩ h8
    · skip
      refine xt_catch (name := "java/lang/IllegalArgumentException") (hh := hh_L_soften) (pre := [(0, 10, 13, 26)]) (x := (0, 10, 17, 13)) (suf := []) C hx9 rfl (List.forall_mem_cons.mpr ⟨⟨"java/lang/IndexOutOfBoundsException", by decide, lkcL_26, List.mem_of_getElem? (i := 0) rfl⟩, fun _ h => absurd h List.not_mem_nil⟩) (by decide) (by decide) lkcL_13 cst_IAE_IAE (fun q => ?_)
      refine xt_astore C dL_soften_17 (Nat.le_of_ble_eq_true rfl) rfl rfl ?_
      refine xt_iconst (v := nI 2) C dL_soften_19 rfl ?_
      exact xt_iret C dL_soften_20 ⟨Nat.le_of_ble_eq_true rfl, Nat.le_of_ble_eq_true rfl⟩ h8
set_option maxRecDepth 20000 in
set_option maxHeartbeats 1000000 in
theorem wr_coefficient {a0 a1 a2 : Int32} (hct : xt_CtX E l yX5_coefficient cX5_coefficient 4 (some Jvm.ClassFile.FieldType.int) fr lw 1 6 (.ref (E.1 0) :: [.int a0, .int a1, .int a2]) S Q QX) (hq : ∀ v S', Q v S' → ∃ x : Int32, v = some (.int x) ∧ Q' (some (.int (nI 0))) (xt_sB S' 67 (vp_updL (S'.2.2.1 67) 0 x.toInt64))) (hx : ∀ X S', QX X S' → (X = "java/lang/IndexOutOfBoundsException" ∧ Q' (some (.int (nI 1))) S')) : xt_CtH E l yL_coefficient cL_coefficient 6 (some Jvm.ClassFile.FieldType.int) hh_L_coefficient (fr + 1) (lw + 23) 1 6 [.ref (E.1 0), .int a0, .int a1, .int a2, .ref (E.1 67)] S Q' := by
  refine xt_bodyH (by decide +kernel) (xt_all rfl) (Nat.le_of_ble_eq_true rfl) (fun cx C hl9 hx9 => ?_)
  show xt_X E cx _ 0 0 0 [some (.ref (E.1 0)), some (.int a0), some (.int a1), some (.int a2), some (.ref (E.1 67)), none] [] S
  refine xt_aload C dL_coefficient_0 rfl ?_
  refine xt_iconst (v := nI 0) C dL_coefficient_2 rfl ?_
  refine xt_aload_n C dL_coefficient_3 rfl ?_
  refine xt_iload_n C dL_coefficient_4 rfl ?_
  refine xt_iload_n C dL_coefficient_5 rfl ?_
  refine xt_iload_n C dL_coefficient_6 rfl ?_
  refine xt_callVX C mv_X5_coefficient lkL_56 (by rw [hl9]; exact hct) rfl (by decide) (xt_cl0 _ _) rfl ⟨Nat.le_refl _, by show 8 + (4 + 11) + lw ≤ lw + 23; omega, Nat.le_of_ble_eq_true rfl, Nat.le_of_ble_eq_true rfl⟩ rfl (Nat.le_of_ble_eq_true rfl) dL_coefficient_7 (fun v S9 h9 => ?_) (fun X S9 h9 => ?_)
  · obtain ⟨x, rfl, h8⟩ := hq v S9 h9
    refine xt_i2l C dL_coefficient_10 rfl ?_
    refine xt_lastN C (by decide) (xt_cl67 _) (by decide) (by decide) dL_coefficient_11 ?_
    refine xt_goto (tgt := 19) C dL_coefficient_12 (by decide) ?_
    refine xt_iconst (v := nI 0) C dL_coefficient_19 rfl ?_
    exact xt_iret C dL_coefficient_20 ⟨Nat.le_of_ble_eq_true rfl, Nat.le_of_ble_eq_true rfl⟩ h8
  · obtain ⟨rfl, h8⟩ := hx X S9 h9
    refine xt_catch (name := "java/lang/IndexOutOfBoundsException") (hh := hh_L_coefficient) (pre := []) (x := (0, 12, 15, 26)) (suf := []) C hx9 rfl (fun _ h => absurd h List.not_mem_nil) (by decide) (by decide) lkcL_26 cst_IOOBE_IOOBE (fun q => ?_)
    refine xt_astore C dL_coefficient_15 (Nat.le_of_ble_eq_true rfl) rfl rfl ?_
    refine xt_iconst (v := nI 1) C dL_coefficient_17 rfl ?_
    exact xt_iret C dL_coefficient_18 ⟨Nat.le_of_ble_eq_true rfl, Nat.le_of_ble_eq_true rfl⟩ h8
set_option maxRecDepth 20000 in
set_option maxHeartbeats 1000000 in
theorem wr_band {a0 a1 a2 : Int32} (hct : xt_CtX E l yX5_band cX5_band 4 (some Jvm.ClassFile.FieldType.int) fr lw 1 6 (.ref (E.1 0) :: [.int a0, .int a1, .int a2]) S Q QX) (hq : ∀ v S', Q v S' → ∃ x : Int32, v = some (.int x) ∧ Q' (some (.int (nI 0))) (xt_sB S' 67 (vp_updL (S'.2.2.1 67) 0 x.toInt64))) (hx : ∀ X S', QX X S' → (X = "java/lang/IndexOutOfBoundsException" ∧ Q' (some (.int (nI 1))) S')) : xt_CtH E l yL_band cL_band 6 (some Jvm.ClassFile.FieldType.int) hh_L_band (fr + 1) (lw + 23) 1 6 [.ref (E.1 0), .int a0, .int a1, .int a2, .ref (E.1 67)] S Q' := by
  refine xt_bodyH (by decide +kernel) (xt_all rfl) (Nat.le_of_ble_eq_true rfl) (fun cx C hl9 hx9 => ?_)
  show xt_X E cx _ 0 0 0 [some (.ref (E.1 0)), some (.int a0), some (.int a1), some (.int a2), some (.ref (E.1 67)), none] [] S
  refine xt_aload C dL_band_0 rfl ?_
  refine xt_iconst (v := nI 0) C dL_band_2 rfl ?_
  refine xt_aload_n C dL_band_3 rfl ?_
  refine xt_iload_n C dL_band_4 rfl ?_
  refine xt_iload_n C dL_band_5 rfl ?_
  refine xt_iload_n C dL_band_6 rfl ?_
  refine xt_callVX C mv_X5_band lkL_59 (by rw [hl9]; exact hct) rfl (by decide) (xt_cl0 _ _) rfl ⟨Nat.le_refl _, by show 8 + (4 + 11) + lw ≤ lw + 23; omega, Nat.le_of_ble_eq_true rfl, Nat.le_of_ble_eq_true rfl⟩ rfl (Nat.le_of_ble_eq_true rfl) dL_band_7 (fun v S9 h9 => ?_) (fun X S9 h9 => ?_)
  · obtain ⟨x, rfl, h8⟩ := hq v S9 h9
    refine xt_i2l C dL_band_10 rfl ?_
    refine xt_lastN C (by decide) (xt_cl67 _) (by decide) (by decide) dL_band_11 ?_
    refine xt_goto (tgt := 19) C dL_band_12 (by decide) ?_
    refine xt_iconst (v := nI 0) C dL_band_19 rfl ?_
    exact xt_iret C dL_band_20 ⟨Nat.le_of_ble_eq_true rfl, Nat.le_of_ble_eq_true rfl⟩ h8
  · obtain ⟨rfl, h8⟩ := hx X S9 h9
    refine xt_catch (name := "java/lang/IndexOutOfBoundsException") (hh := hh_L_band) (pre := []) (x := (0, 12, 15, 26)) (suf := []) C hx9 rfl (fun _ h => absurd h List.not_mem_nil) (by decide) (by decide) lkcL_26 cst_IOOBE_IOOBE (fun q => ?_)
    refine xt_astore C dL_band_15 (Nat.le_of_ble_eq_true rfl) rfl rfl ?_
    refine xt_iconst (v := nI 1) C dL_band_17 rfl ?_
    exact xt_iret C dL_band_18 ⟨Nat.le_of_ble_eq_true rfl, Nat.le_of_ble_eq_true rfl⟩ h8
set_option maxRecDepth 20000 in
set_option maxHeartbeats 1000000 in
theorem wr_layerOf {a0 a1 a2 a3 : Int32} (hct : xt_CtX E l yX5_layerOf cX5_layerOf 5 (some Jvm.ClassFile.FieldType.int) fr lw 1 6 (.ref (E.1 0) :: [.int a0, .int a1, .int a2, .int a3]) S Q QX) (hq : ∀ v S', Q v S' → ∃ x : Int32, v = some (.int x) ∧ Q' (some (.int (nI 0))) (xt_sB S' 67 (vp_updL (S'.2.2.1 67) 0 x.toInt64))) (hx : ∀ X S', QX X S' → (X = "java/lang/IndexOutOfBoundsException" ∧ Q' (some (.int (nI 1))) S') ∨ (X = "java/lang/IllegalArgumentException" ∧ Q' (some (.int (nI 2))) S')) : xt_CtH E l yL_layerOf cL_layerOf 7 (some Jvm.ClassFile.FieldType.int) hh_L_layerOf (fr + 1) (lw + 24) 1 6 [.ref (E.1 0), .int a0, .int a1, .int a2, .int a3, .ref (E.1 67)] S Q' := by
  refine xt_bodyH (by decide +kernel) (xt_all rfl) (Nat.le_of_ble_eq_true rfl) (fun cx C hl9 hx9 => ?_)
  show xt_X E cx _ 0 0 0 [some (.ref (E.1 0)), some (.int a0), some (.int a1), some (.int a2), some (.int a3), some (.ref (E.1 67)), none] [] S
  refine xt_aload C dL_layerOf_0 rfl ?_
  refine xt_iconst (v := nI 0) C dL_layerOf_2 rfl ?_
  refine xt_aload_n C dL_layerOf_3 rfl ?_
  refine xt_iload_n C dL_layerOf_4 rfl ?_
  refine xt_iload_n C dL_layerOf_5 rfl ?_
  refine xt_iload_n C dL_layerOf_6 rfl ?_
  refine xt_iload C dL_layerOf_7 rfl ?_
  refine xt_callVX C mv_X5_layerOf lkL_62 (by rw [hl9]; exact hct) rfl (by decide) (xt_cl0 _ _) rfl ⟨Nat.le_refl _, by show 8 + (5 + 11) + lw ≤ lw + 24; omega, Nat.le_of_ble_eq_true rfl, Nat.le_of_ble_eq_true rfl⟩ rfl (Nat.le_of_ble_eq_true rfl) dL_layerOf_9 (fun v S9 h9 => ?_) (fun X S9 h9 => ?_)
  · obtain ⟨x, rfl, h8⟩ := hq v S9 h9
    refine xt_i2l C dL_layerOf_12 rfl ?_
    refine xt_lastN C (by decide) (xt_cl67 _) (by decide) (by decide) dL_layerOf_13 ?_
    refine xt_goto (tgt := 25) C dL_layerOf_14 (by decide) ?_
    refine xt_iconst (v := nI 0) C dL_layerOf_25 rfl ?_
    exact xt_iret C dL_layerOf_26 ⟨Nat.le_of_ble_eq_true rfl, Nat.le_of_ble_eq_true rfl⟩ h8
  · rcases hx X S9 h9 with ⟨rfl, h8⟩ | ⟨rfl, h8⟩
    · skip
      refine xt_catch (name := "java/lang/IndexOutOfBoundsException") (hh := hh_L_layerOf) (pre := []) (x := (0, 14, 17, 26)) (suf := [(0, 14, 21, 13)]) C hx9 rfl (fun _ h => absurd h List.not_mem_nil) (by decide) (by decide) lkcL_26 cst_IOOBE_IOOBE (fun q => ?_)
      refine xt_astore C dL_layerOf_17 (Nat.le_of_ble_eq_true rfl) rfl rfl ?_
      refine xt_iconst (v := nI 1) C dL_layerOf_19 rfl ?_
      exact xt_iret C dL_layerOf_20 ⟨Nat.le_of_ble_eq_true rfl, Nat.le_of_ble_eq_true rfl⟩ h8
    · skip
      refine xt_catch (name := "java/lang/IllegalArgumentException") (hh := hh_L_layerOf) (pre := [(0, 14, 17, 26)]) (x := (0, 14, 21, 13)) (suf := []) C hx9 rfl (List.forall_mem_cons.mpr ⟨⟨"java/lang/IndexOutOfBoundsException", by decide, lkcL_26, List.mem_of_getElem? (i := 0) rfl⟩, fun _ h => absurd h List.not_mem_nil⟩) (by decide) (by decide) lkcL_13 cst_IAE_IAE (fun q => ?_)
      refine xt_astore C dL_layerOf_21 (Nat.le_of_ble_eq_true rfl) rfl rfl ?_
      refine xt_iconst (v := nI 2) C dL_layerOf_23 rfl ?_
      exact xt_iret C dL_layerOf_24 ⟨Nat.le_of_ble_eq_true rfl, Nat.le_of_ble_eq_true rfl⟩ h8
set_option maxRecDepth 20000 in
set_option maxHeartbeats 1000000 in
theorem wr_bits {a0 a1 : Int32} (hct : xt_CtX E l yX5_bits cX5_bits 3 (some Jvm.ClassFile.FieldType.int) fr lw 1 6 (.ref (E.1 0) :: [.int a0, .int a1]) S Q QX) (hq : ∀ v S', Q v S' → ∃ x : Int32, v = some (.int x) ∧ Q' (some (.int (nI 0))) (xt_sB S' 67 (vp_updL (S'.2.2.1 67) 0 x.toInt64))) (hx : ∀ X S', QX X S' → (X = "java/lang/IndexOutOfBoundsException" ∧ Q' (some (.int (nI 1))) S') ∨ (X = "java/lang/IllegalArgumentException" ∧ Q' (some (.int (nI 2))) S')) : xt_CtH E l yL_bits cL_bits 5 (some Jvm.ClassFile.FieldType.int) hh_L_bits (fr + 1) (lw + 22) 1 6 [.ref (E.1 0), .int a0, .int a1, .ref (E.1 67)] S Q' := by
  refine xt_bodyH (by decide +kernel) (xt_all rfl) (Nat.le_of_ble_eq_true rfl) (fun cx C hl9 hx9 => ?_)
  show xt_X E cx _ 0 0 0 [some (.ref (E.1 0)), some (.int a0), some (.int a1), some (.ref (E.1 67)), none] [] S
  refine xt_aload_n C dL_bits_0 rfl ?_
  refine xt_iconst (v := nI 0) C dL_bits_1 rfl ?_
  refine xt_aload_n C dL_bits_2 rfl ?_
  refine xt_iload_n C dL_bits_3 rfl ?_
  refine xt_iload_n C dL_bits_4 rfl ?_
  refine xt_callVX C mv_X5_bits lkL_66 (by rw [hl9]; exact hct) rfl (by decide) (xt_cl0 _ _) rfl ⟨Nat.le_refl _, by show 8 + (3 + 11) + lw ≤ lw + 22; omega, Nat.le_of_ble_eq_true rfl, Nat.le_of_ble_eq_true rfl⟩ rfl (Nat.le_of_ble_eq_true rfl) dL_bits_5 (fun v S9 h9 => ?_) (fun X S9 h9 => ?_)
  · obtain ⟨x, rfl, h8⟩ := hq v S9 h9
    refine xt_i2l C dL_bits_8 rfl ?_
    refine xt_lastN C (by decide) (xt_cl67 _) (by decide) (by decide) dL_bits_9 ?_
    refine xt_goto (tgt := 21) C dL_bits_10 (by decide) ?_
    refine xt_iconst (v := nI 0) C dL_bits_21 rfl ?_
    exact xt_iret C dL_bits_22 ⟨Nat.le_of_ble_eq_true rfl, Nat.le_of_ble_eq_true rfl⟩ h8
  · rcases hx X S9 h9 with ⟨rfl, h8⟩ | ⟨rfl, h8⟩
    · skip
      refine xt_catch (name := "java/lang/IndexOutOfBoundsException") (hh := hh_L_bits) (pre := []) (x := (0, 10, 13, 26)) (suf := [(0, 10, 17, 13)]) C hx9 rfl (fun _ h => absurd h List.not_mem_nil) (by decide) (by decide) lkcL_26 cst_IOOBE_IOOBE (fun q => ?_)
      refine xt_astore C dL_bits_13 (Nat.le_of_ble_eq_true rfl) rfl rfl ?_
      refine xt_iconst (v := nI 1) C dL_bits_15 rfl ?_
      exact xt_iret C dL_bits_16 ⟨Nat.le_of_ble_eq_true rfl, Nat.le_of_ble_eq_true rfl⟩ h8
    · skip
      refine xt_catch (name := "java/lang/IllegalArgumentException") (hh := hh_L_bits) (pre := [(0, 10, 13, 26)]) (x := (0, 10, 17, 13)) (suf := []) C hx9 rfl (List.forall_mem_cons.mpr ⟨⟨"java/lang/IndexOutOfBoundsException", by decide, lkcL_26, List.mem_of_getElem? (i := 0) rfl⟩, fun _ h => absurd h List.not_mem_nil⟩) (by decide) (by decide) lkcL_13 cst_IAE_IAE (fun q => ?_)
      refine xt_astore C dL_bits_17 (Nat.le_of_ble_eq_true rfl) rfl rfl ?_
      refine xt_iconst (v := nI 2) C dL_bits_19 rfl ?_
      exact xt_iret C dL_bits_20 ⟨Nat.le_of_ble_eq_true rfl, Nat.le_of_ble_eq_true rfl⟩ h8
set_option maxRecDepth 20000 in
set_option maxHeartbeats 1000000 in
theorem wr_descendants {a0 a1 a2 : Int32} (hct : xt_CtX E l yX5_descendants cX5_descendants 4 (some Jvm.ClassFile.FieldType.int) fr lw 1 6 (.ref (E.1 0) :: [.int a0, .int a1, .int a2]) S Q QX) (hq : ∀ v S', Q v S' → ∃ x : Int32, v = some (.int x) ∧ Q' (some (.int (nI 0))) (xt_sB S' 67 (vp_updL (S'.2.2.1 67) 0 x.toInt64))) (hx : ∀ X S', QX X S' → (X = "java/lang/IndexOutOfBoundsException" ∧ Q' (some (.int (nI 1))) S')) : xt_CtH E l yL_descendants cL_descendants 6 (some Jvm.ClassFile.FieldType.int) hh_L_descendants (fr + 1) (lw + 23) 1 6 [.ref (E.1 0), .int a0, .int a1, .int a2, .ref (E.1 67)] S Q' := by
  refine xt_bodyH (by decide +kernel) (xt_all rfl) (Nat.le_of_ble_eq_true rfl) (fun cx C hl9 hx9 => ?_)
  show xt_X E cx _ 0 0 0 [some (.ref (E.1 0)), some (.int a0), some (.int a1), some (.int a2), some (.ref (E.1 67)), none] [] S
  refine xt_aload C dL_descendants_0 rfl ?_
  refine xt_iconst (v := nI 0) C dL_descendants_2 rfl ?_
  refine xt_aload_n C dL_descendants_3 rfl ?_
  refine xt_iload_n C dL_descendants_4 rfl ?_
  refine xt_iload_n C dL_descendants_5 rfl ?_
  refine xt_iload_n C dL_descendants_6 rfl ?_
  refine xt_callVX C mv_X5_descendants lkL_69 (by rw [hl9]; exact hct) rfl (by decide) (xt_cl0 _ _) rfl ⟨Nat.le_refl _, by show 8 + (4 + 11) + lw ≤ lw + 23; omega, Nat.le_of_ble_eq_true rfl, Nat.le_of_ble_eq_true rfl⟩ rfl (Nat.le_of_ble_eq_true rfl) dL_descendants_7 (fun v S9 h9 => ?_) (fun X S9 h9 => ?_)
  · obtain ⟨x, rfl, h8⟩ := hq v S9 h9
    refine xt_i2l C dL_descendants_10 rfl ?_
    refine xt_lastN C (by decide) (xt_cl67 _) (by decide) (by decide) dL_descendants_11 ?_
    refine xt_goto (tgt := 19) C dL_descendants_12 (by decide) ?_
    refine xt_iconst (v := nI 0) C dL_descendants_19 rfl ?_
    exact xt_iret C dL_descendants_20 ⟨Nat.le_of_ble_eq_true rfl, Nat.le_of_ble_eq_true rfl⟩ h8
  · obtain ⟨rfl, h8⟩ := hx X S9 h9
    refine xt_catch (name := "java/lang/IndexOutOfBoundsException") (hh := hh_L_descendants) (pre := []) (x := (0, 12, 15, 26)) (suf := []) C hx9 rfl (fun _ h => absurd h List.not_mem_nil) (by decide) (by decide) lkcL_26 cst_IOOBE_IOOBE (fun q => ?_)
    refine xt_astore C dL_descendants_15 (Nat.le_of_ble_eq_true rfl) rfl rfl ?_
    refine xt_iconst (v := nI 1) C dL_descendants_17 rfl ?_
    exact xt_iret C dL_descendants_18 ⟨Nat.le_of_ble_eq_true rfl, Nat.le_of_ble_eq_true rfl⟩ h8
set_option maxRecDepth 20000 in
set_option maxHeartbeats 1000000 in
theorem wr_roots {a0 a1 : Int32} (hct : xt_CtX E l yX5_roots cX5_roots 3 (some Jvm.ClassFile.FieldType.int) fr lw 1 6 (.ref (E.1 0) :: [.int a0, .int a1]) S Q QX) (hq : ∀ v S', Q v S' → ∃ x : Int32, v = some (.int x) ∧ Q' (some (.int (nI 0))) (xt_sB S' 67 (vp_updL (S'.2.2.1 67) 0 x.toInt64))) (hx : ∀ X S', QX X S' → (X = "java/lang/IndexOutOfBoundsException" ∧ Q' (some (.int (nI 1))) S') ∨ (X = "java/lang/IllegalArgumentException" ∧ Q' (some (.int (nI 2))) S')) : xt_CtH E l yL_roots cL_roots 5 (some Jvm.ClassFile.FieldType.int) hh_L_roots (fr + 1) (lw + 22) 1 6 [.ref (E.1 0), .int a0, .int a1, .ref (E.1 67)] S Q' := by
  refine xt_bodyH (by decide +kernel) (xt_all rfl) (Nat.le_of_ble_eq_true rfl) (fun cx C hl9 hx9 => ?_)
  show xt_X E cx _ 0 0 0 [some (.ref (E.1 0)), some (.int a0), some (.int a1), some (.ref (E.1 67)), none] [] S
  refine xt_aload_n C dL_roots_0 rfl ?_
  refine xt_iconst (v := nI 0) C dL_roots_1 rfl ?_
  refine xt_aload_n C dL_roots_2 rfl ?_
  refine xt_iload_n C dL_roots_3 rfl ?_
  refine xt_iload_n C dL_roots_4 rfl ?_
  refine xt_callVX C mv_X5_roots lkL_72 (by rw [hl9]; exact hct) rfl (by decide) (xt_cl0 _ _) rfl ⟨Nat.le_refl _, by show 8 + (3 + 11) + lw ≤ lw + 22; omega, Nat.le_of_ble_eq_true rfl, Nat.le_of_ble_eq_true rfl⟩ rfl (Nat.le_of_ble_eq_true rfl) dL_roots_5 (fun v S9 h9 => ?_) (fun X S9 h9 => ?_)
  · obtain ⟨x, rfl, h8⟩ := hq v S9 h9
    refine xt_i2l C dL_roots_8 rfl ?_
    refine xt_lastN C (by decide) (xt_cl67 _) (by decide) (by decide) dL_roots_9 ?_
    refine xt_goto (tgt := 21) C dL_roots_10 (by decide) ?_
    refine xt_iconst (v := nI 0) C dL_roots_21 rfl ?_
    exact xt_iret C dL_roots_22 ⟨Nat.le_of_ble_eq_true rfl, Nat.le_of_ble_eq_true rfl⟩ h8
  · rcases hx X S9 h9 with ⟨rfl, h8⟩ | ⟨rfl, h8⟩
    · skip
      refine xt_catch (name := "java/lang/IndexOutOfBoundsException") (hh := hh_L_roots) (pre := []) (x := (0, 10, 13, 26)) (suf := [(0, 10, 17, 13)]) C hx9 rfl (fun _ h => absurd h List.not_mem_nil) (by decide) (by decide) lkcL_26 cst_IOOBE_IOOBE (fun q => ?_)
      refine xt_astore C dL_roots_13 (Nat.le_of_ble_eq_true rfl) rfl rfl ?_
      refine xt_iconst (v := nI 1) C dL_roots_15 rfl ?_
      exact xt_iret C dL_roots_16 ⟨Nat.le_of_ble_eq_true rfl, Nat.le_of_ble_eq_true rfl⟩ h8
    · skip
      refine xt_catch (name := "java/lang/IllegalArgumentException") (hh := hh_L_roots) (pre := [(0, 10, 13, 26)]) (x := (0, 10, 17, 13)) (suf := []) C hx9 rfl (List.forall_mem_cons.mpr ⟨⟨"java/lang/IndexOutOfBoundsException", by decide, lkcL_26, List.mem_of_getElem? (i := 0) rfl⟩, fun _ h => absurd h List.not_mem_nil⟩) (by decide) (by decide) lkcL_13 cst_IAE_IAE (fun q => ?_)
      refine xt_astore C dL_roots_17 (Nat.le_of_ble_eq_true rfl) rfl rfl ?_
      refine xt_iconst (v := nI 2) C dL_roots_19 rfl ?_
      exact xt_iret C dL_roots_20 ⟨Nat.le_of_ble_eq_true rfl, Nat.le_of_ble_eq_true rfl⟩ h8
set_option maxRecDepth 20000 in
set_option maxHeartbeats 1000000 in
theorem wr_needed {a0 a1 : Int32} (hct : xt_CtX E l yX5_needed cX5_needed 3 (some Jvm.ClassFile.FieldType.int) fr lw 1 6 (.ref (E.1 0) :: [.int a0, .int a1]) S Q QX) (hq : ∀ v S', Q v S' → ∃ x : Int32, v = some (.int x) ∧ Q' (some (.int (nI 0))) (xt_sB S' 67 (vp_updL (S'.2.2.1 67) 0 x.toInt64))) (hx : ∀ X S', QX X S' → (X = "java/lang/IndexOutOfBoundsException" ∧ Q' (some (.int (nI 1))) S')) : xt_CtH E l yL_needed cL_needed 5 (some Jvm.ClassFile.FieldType.int) hh_L_needed (fr + 1) (lw + 22) 1 6 [.ref (E.1 0), .int a0, .int a1, .ref (E.1 67)] S Q' := by
  refine xt_bodyH (by decide +kernel) (xt_all rfl) (Nat.le_of_ble_eq_true rfl) (fun cx C hl9 hx9 => ?_)
  show xt_X E cx _ 0 0 0 [some (.ref (E.1 0)), some (.int a0), some (.int a1), some (.ref (E.1 67)), none] [] S
  refine xt_aload_n C dL_needed_0 rfl ?_
  refine xt_iconst (v := nI 0) C dL_needed_1 rfl ?_
  refine xt_aload_n C dL_needed_2 rfl ?_
  refine xt_iload_n C dL_needed_3 rfl ?_
  refine xt_iload_n C dL_needed_4 rfl ?_
  refine xt_callVX C mv_X5_needed lkL_75 (by rw [hl9]; exact hct) rfl (by decide) (xt_cl0 _ _) rfl ⟨Nat.le_refl _, by show 8 + (3 + 11) + lw ≤ lw + 22; omega, Nat.le_of_ble_eq_true rfl, Nat.le_of_ble_eq_true rfl⟩ rfl (Nat.le_of_ble_eq_true rfl) dL_needed_5 (fun v S9 h9 => ?_) (fun X S9 h9 => ?_)
  · obtain ⟨x, rfl, h8⟩ := hq v S9 h9
    refine xt_i2l C dL_needed_8 rfl ?_
    refine xt_lastN C (by decide) (xt_cl67 _) (by decide) (by decide) dL_needed_9 ?_
    refine xt_goto (tgt := 17) C dL_needed_10 (by decide) ?_
    refine xt_iconst (v := nI 0) C dL_needed_17 rfl ?_
    exact xt_iret C dL_needed_18 ⟨Nat.le_of_ble_eq_true rfl, Nat.le_of_ble_eq_true rfl⟩ h8
  · obtain ⟨rfl, h8⟩ := hx X S9 h9
    refine xt_catch (name := "java/lang/IndexOutOfBoundsException") (hh := hh_L_needed) (pre := []) (x := (0, 10, 13, 26)) (suf := []) C hx9 rfl (fun _ h => absurd h List.not_mem_nil) (by decide) (by decide) lkcL_26 cst_IOOBE_IOOBE (fun q => ?_)
    refine xt_astore C dL_needed_13 (Nat.le_of_ble_eq_true rfl) rfl rfl ?_
    refine xt_iconst (v := nI 1) C dL_needed_15 rfl ?_
    exact xt_iret C dL_needed_16 ⟨Nat.le_of_ble_eq_true rfl, Nat.le_of_ble_eq_true rfl⟩ h8
set_option maxRecDepth 20000 in
set_option maxHeartbeats 1000000 in
theorem wr_decoded {a0 a1 a2 : Int32} (hct : xt_CtX E l yX5_decoded cX5_decoded 4 (some Jvm.ClassFile.FieldType.int) fr lw 1 6 (.ref (E.1 0) :: [.int a0, .int a1, .int a2]) S Q QX) (hq : ∀ v S', Q v S' → ∃ x : Int32, v = some (.int x) ∧ Q' (some (.int (nI 0))) (xt_sB S' 67 (vp_updL (S'.2.2.1 67) 0 x.toInt64))) (hx : ∀ X S', QX X S' → (X = "java/lang/IllegalArgumentException" ∧ Q' (some (.int (nI 1))) S') ∨ (X = "java/lang/IndexOutOfBoundsException" ∧ Q' (some (.int (nI 2))) S')) : xt_CtH E l yL_decoded cL_decoded 6 (some Jvm.ClassFile.FieldType.int) hh_L_decoded (fr + 1) (lw + 23) 1 6 [.ref (E.1 0), .int a0, .int a1, .int a2, .ref (E.1 67)] S Q' := by
  refine xt_bodyH (by decide +kernel) (xt_all rfl) (Nat.le_of_ble_eq_true rfl) (fun cx C hl9 hx9 => ?_)
  show xt_X E cx _ 0 0 0 [some (.ref (E.1 0)), some (.int a0), some (.int a1), some (.int a2), some (.ref (E.1 67)), none] [] S
  refine xt_aload C dL_decoded_0 rfl ?_
  refine xt_iconst (v := nI 0) C dL_decoded_2 rfl ?_
  refine xt_aload_n C dL_decoded_3 rfl ?_
  refine xt_iload_n C dL_decoded_4 rfl ?_
  refine xt_iload_n C dL_decoded_5 rfl ?_
  refine xt_iload_n C dL_decoded_6 rfl ?_
  refine xt_callVX C mv_X5_decoded lkL_78 (by rw [hl9]; exact hct) rfl (by decide) (xt_cl0 _ _) rfl ⟨Nat.le_refl _, by show 8 + (4 + 11) + lw ≤ lw + 23; omega, Nat.le_of_ble_eq_true rfl, Nat.le_of_ble_eq_true rfl⟩ rfl (Nat.le_of_ble_eq_true rfl) dL_decoded_7 (fun v S9 h9 => ?_) (fun X S9 h9 => ?_)
  · obtain ⟨x, rfl, h8⟩ := hq v S9 h9
    refine xt_i2l C dL_decoded_10 rfl ?_
    refine xt_lastN C (by decide) (xt_cl67 _) (by decide) (by decide) dL_decoded_11 ?_
    refine xt_goto (tgt := 23) C dL_decoded_12 (by decide) ?_
    refine xt_iconst (v := nI 0) C dL_decoded_23 rfl ?_
    exact xt_iret C dL_decoded_24 ⟨Nat.le_of_ble_eq_true rfl, Nat.le_of_ble_eq_true rfl⟩ h8
  · rcases hx X S9 h9 with ⟨rfl, h8⟩ | ⟨rfl, h8⟩
    · skip
      refine xt_catch (name := "java/lang/IllegalArgumentException") (hh := hh_L_decoded) (pre := []) (x := (0, 12, 15, 13)) (suf := [(0, 12, 19, 26)]) C hx9 rfl (fun _ h => absurd h List.not_mem_nil) (by decide) (by decide) lkcL_13 cst_IAE_IAE (fun q => ?_)
      refine xt_astore C dL_decoded_15 (Nat.le_of_ble_eq_true rfl) rfl rfl ?_
      refine xt_iconst (v := nI 1) C dL_decoded_17 rfl ?_
      exact xt_iret C dL_decoded_18 ⟨Nat.le_of_ble_eq_true rfl, Nat.le_of_ble_eq_true rfl⟩ h8
    · skip
      refine xt_catch (name := "java/lang/IndexOutOfBoundsException") (hh := hh_L_decoded) (pre := [(0, 12, 15, 13)]) (x := (0, 12, 19, 26)) (suf := []) C hx9 rfl (List.forall_mem_cons.mpr ⟨⟨"java/lang/IllegalArgumentException", by decide, lkcL_13, List.mem_of_getElem? (i := 3) rfl⟩, fun _ h => absurd h List.not_mem_nil⟩) (by decide) (by decide) lkcL_26 cst_IOOBE_IOOBE (fun q => ?_)
      refine xt_astore C dL_decoded_19 (Nat.le_of_ble_eq_true rfl) rfl rfl ?_
      refine xt_iconst (v := nI 2) C dL_decoded_21 rfl ?_
      exact xt_iret C dL_decoded_22 ⟨Nat.le_of_ble_eq_true rfl, Nat.le_of_ble_eq_true rfl⟩ h8
set_option maxRecDepth 20000 in
set_option maxHeartbeats 1000000 in
theorem wr_worst {a0 a1 a2 : Int32} (hct : xt_CtX E l yX5_worst cX5_worst 4 (some Jvm.ClassFile.FieldType.int) fr lw 1 6 (.ref (E.1 0) :: [.int a0, .int a1, .int a2]) S Q QX) (hq : ∀ v S', Q v S' → ∃ x : Int32, v = some (.int x) ∧ Q' (some (.int (nI 0))) (xt_sB S' 67 (vp_updL (S'.2.2.1 67) 0 x.toInt64))) (hx : ∀ X S', QX X S' → (X = "java/lang/IllegalArgumentException" ∧ Q' (some (.int (nI 1))) S') ∨ (X = "java/lang/IndexOutOfBoundsException" ∧ Q' (some (.int (nI 2))) S')) : xt_CtH E l yL_worst cL_worst 6 (some Jvm.ClassFile.FieldType.int) hh_L_worst (fr + 1) (lw + 23) 1 6 [.ref (E.1 0), .int a0, .int a1, .int a2, .ref (E.1 67)] S Q' := by
  refine xt_bodyH (by decide +kernel) (xt_all rfl) (Nat.le_of_ble_eq_true rfl) (fun cx C hl9 hx9 => ?_)
  show xt_X E cx _ 0 0 0 [some (.ref (E.1 0)), some (.int a0), some (.int a1), some (.int a2), some (.ref (E.1 67)), none] [] S
  refine xt_aload C dL_worst_0 rfl ?_
  refine xt_iconst (v := nI 0) C dL_worst_2 rfl ?_
  refine xt_aload_n C dL_worst_3 rfl ?_
  refine xt_iload_n C dL_worst_4 rfl ?_
  refine xt_iload_n C dL_worst_5 rfl ?_
  refine xt_iload_n C dL_worst_6 rfl ?_
  refine xt_callVX C mv_X5_worst lkL_81 (by rw [hl9]; exact hct) rfl (by decide) (xt_cl0 _ _) rfl ⟨Nat.le_refl _, by show 8 + (4 + 11) + lw ≤ lw + 23; omega, Nat.le_of_ble_eq_true rfl, Nat.le_of_ble_eq_true rfl⟩ rfl (Nat.le_of_ble_eq_true rfl) dL_worst_7 (fun v S9 h9 => ?_) (fun X S9 h9 => ?_)
  · obtain ⟨x, rfl, h8⟩ := hq v S9 h9
    refine xt_i2l C dL_worst_10 rfl ?_
    refine xt_lastN C (by decide) (xt_cl67 _) (by decide) (by decide) dL_worst_11 ?_
    refine xt_goto (tgt := 23) C dL_worst_12 (by decide) ?_
    refine xt_iconst (v := nI 0) C dL_worst_23 rfl ?_
    exact xt_iret C dL_worst_24 ⟨Nat.le_of_ble_eq_true rfl, Nat.le_of_ble_eq_true rfl⟩ h8
  · rcases hx X S9 h9 with ⟨rfl, h8⟩ | ⟨rfl, h8⟩
    · skip
      refine xt_catch (name := "java/lang/IllegalArgumentException") (hh := hh_L_worst) (pre := []) (x := (0, 12, 15, 13)) (suf := [(0, 12, 19, 26)]) C hx9 rfl (fun _ h => absurd h List.not_mem_nil) (by decide) (by decide) lkcL_13 cst_IAE_IAE (fun q => ?_)
      refine xt_astore C dL_worst_15 (Nat.le_of_ble_eq_true rfl) rfl rfl ?_
      refine xt_iconst (v := nI 1) C dL_worst_17 rfl ?_
      exact xt_iret C dL_worst_18 ⟨Nat.le_of_ble_eq_true rfl, Nat.le_of_ble_eq_true rfl⟩ h8
    · skip
      refine xt_catch (name := "java/lang/IndexOutOfBoundsException") (hh := hh_L_worst) (pre := [(0, 12, 15, 13)]) (x := (0, 12, 19, 26)) (suf := []) C hx9 rfl (List.forall_mem_cons.mpr ⟨⟨"java/lang/IllegalArgumentException", by decide, lkcL_13, List.mem_of_getElem? (i := 3) rfl⟩, fun _ h => absurd h List.not_mem_nil⟩) (by decide) (by decide) lkcL_26 cst_IOOBE_IOOBE (fun q => ?_)
      refine xt_astore C dL_worst_19 (Nat.le_of_ble_eq_true rfl) rfl rfl ?_
      refine xt_iconst (v := nI 2) C dL_worst_21 rfl ?_
      exact xt_iret C dL_worst_22 ⟨Nat.le_of_ble_eq_true rfl, Nat.le_of_ble_eq_true rfl⟩ h8
set_option maxRecDepth 20000 in
set_option maxHeartbeats 1000000 in
theorem wr_meanSquare {a0 : Int32} (hct : xt_CtX E l yX5_meanSquare cX5_meanSquare 5 (some Jvm.ClassFile.FieldType.double) fr lw 1 6 (.ref (E.1 0) :: [.int a0]) S Q QX) (hq : ∀ v S', Q v S' → ∃ x : UInt64, v = some (.double x) ∧ Q' (some (.int (nI 0))) (xt_sD S' 68 (vf_upd (S'.2.2.2 68) 0 x))) (hx : ∀ X S', QX X S' → (X = "java/lang/IllegalArgumentException" ∧ Q' (some (.int (nI 1))) S')) : xt_CtH E l yL_meanSquare cL_meanSquare 4 (some Jvm.ClassFile.FieldType.int) hh_L_meanSquare (fr + 1) (lw + 24) 1 6 [.ref (E.1 0), .int a0, .ref (E.1 68)] S Q' := by
  refine xt_bodyH (by decide +kernel) (xt_all rfl) (Nat.le_of_ble_eq_true rfl) (fun cx C hl9 hx9 => ?_)
  show xt_X E cx _ 0 0 0 [some (.ref (E.1 0)), some (.int a0), some (.ref (E.1 68)), none] [] S
  refine xt_aload_n C dL_meanSquare_0 rfl ?_
  refine xt_iconst (v := nI 0) C dL_meanSquare_1 rfl ?_
  refine xt_aload_n C dL_meanSquare_2 rfl ?_
  refine xt_iload_n C dL_meanSquare_3 rfl ?_
  refine xt_callVX C mv_X5_meanSquare lkL_85 (by rw [hl9]; exact hct) rfl (by decide) (xt_cl0 _ _) rfl ⟨Nat.le_refl _, by show 8 + (5 + 11) + lw ≤ lw + 24; omega, Nat.le_of_ble_eq_true rfl, Nat.le_of_ble_eq_true rfl⟩ rfl (Nat.le_of_ble_eq_true rfl) dL_meanSquare_4 (fun v S9 h9 => ?_) (fun X S9 h9 => ?_)
  · obtain ⟨x, rfl, h8⟩ := hq v S9 h9
    refine xt_dastN C (by decide) (xt_cl68 _) (by decide) (by decide) dL_meanSquare_7 ?_
    refine xt_goto (tgt := 14) C dL_meanSquare_8 (by decide) ?_
    refine xt_iconst (v := nI 0) C dL_meanSquare_14 rfl ?_
    exact xt_iret C dL_meanSquare_15 ⟨Nat.le_of_ble_eq_true rfl, Nat.le_of_ble_eq_true rfl⟩ h8
  · obtain ⟨rfl, h8⟩ := hx X S9 h9
    refine xt_catch (name := "java/lang/IllegalArgumentException") (hh := hh_L_meanSquare) (pre := []) (x := (0, 8, 11, 13)) (suf := []) C hx9 rfl (fun _ h => absurd h List.not_mem_nil) (by decide) (by decide) lkcL_13 cst_IAE_IAE (fun q => ?_)
    refine xt_astore_n C dL_meanSquare_11 (Nat.le_of_ble_eq_true rfl) rfl rfl ?_
    refine xt_iconst (v := nI 1) C dL_meanSquare_12 rfl ?_
    exact xt_iret C dL_meanSquare_13 ⟨Nat.le_of_ble_eq_true rfl, Nat.le_of_ble_eq_true rfl⟩ h8
set_option maxRecDepth 20000 in
set_option maxHeartbeats 1000000 in
theorem wr_plan {a0 : Int32} (hct : xt_CtX E l yX5_plan cX5_plan 5 (some Jvm.ClassFile.FieldType.int) fr lw 1 6 (.ref (E.1 0) :: [.int a0]) S Q QX) (hq : ∀ v S', Q v S' → ∃ x : Int32, v = some (.int x) ∧ Q' (some (.int (nI 0))) (xt_sB S' 67 (vp_updL (S'.2.2.1 67) 0 x.toInt64))) (hx : ∀ X S', QX X S' → (X = "java/lang/IllegalArgumentException" ∧ Q' (some (.int (nI 1))) S')) : xt_CtH E l yL_plan cL_plan 4 (some Jvm.ClassFile.FieldType.int) hh_L_plan (fr + 1) (lw + 24) 1 6 [.ref (E.1 0), .int a0, .ref (E.1 67)] S Q' := by
  refine xt_bodyH (by decide +kernel) (xt_all rfl) (Nat.le_of_ble_eq_true rfl) (fun cx C hl9 hx9 => ?_)
  show xt_X E cx _ 0 0 0 [some (.ref (E.1 0)), some (.int a0), some (.ref (E.1 67)), none] [] S
  refine xt_aload_n C dL_plan_0 rfl ?_
  refine xt_iconst (v := nI 0) C dL_plan_1 rfl ?_
  refine xt_aload_n C dL_plan_2 rfl ?_
  refine xt_iload_n C dL_plan_3 rfl ?_
  refine xt_callVX C mv_X5_plan lkL_89 (by rw [hl9]; exact hct) rfl (by decide) (xt_cl0 _ _) rfl ⟨Nat.le_refl _, by show 8 + (5 + 11) + lw ≤ lw + 24; omega, Nat.le_of_ble_eq_true rfl, Nat.le_of_ble_eq_true rfl⟩ rfl (Nat.le_of_ble_eq_true rfl) dL_plan_4 (fun v S9 h9 => ?_) (fun X S9 h9 => ?_)
  · obtain ⟨x, rfl, h8⟩ := hq v S9 h9
    refine xt_i2l C dL_plan_7 rfl ?_
    refine xt_lastN C (by decide) (xt_cl67 _) (by decide) (by decide) dL_plan_8 ?_
    refine xt_goto (tgt := 15) C dL_plan_9 (by decide) ?_
    refine xt_iconst (v := nI 0) C dL_plan_15 rfl ?_
    exact xt_iret C dL_plan_16 ⟨Nat.le_of_ble_eq_true rfl, Nat.le_of_ble_eq_true rfl⟩ h8
  · obtain ⟨rfl, h8⟩ := hx X S9 h9
    refine xt_catch (name := "java/lang/IllegalArgumentException") (hh := hh_L_plan) (pre := []) (x := (0, 9, 12, 13)) (suf := []) C hx9 rfl (fun _ h => absurd h List.not_mem_nil) (by decide) (by decide) lkcL_13 cst_IAE_IAE (fun q => ?_)
    refine xt_astore_n C dL_plan_12 (Nat.le_of_ble_eq_true rfl) rfl rfl ?_
    refine xt_iconst (v := nI 1) C dL_plan_13 rfl ?_
    exact xt_iret C dL_plan_14 ⟨Nat.le_of_ble_eq_true rfl, Nat.le_of_ble_eq_true rfl⟩ h8
set_option maxRecDepth 20000 in
set_option maxHeartbeats 1000000 in
theorem wr_planned {a0 : Int32} (hct : xt_CtX E l yX5_planned cX5_planned 2 (some Jvm.ClassFile.FieldType.int) fr lw 1 6 (.ref (E.1 0) :: [.int a0]) S Q QX) (hq : ∀ v S', Q v S' → ∃ x : Int32, v = some (.int x) ∧ Q' (some (.int (nI 0))) (xt_sB S' 67 (vp_updL (S'.2.2.1 67) 0 x.toInt64))) (hx : ∀ X S', QX X S' → (X = "java/util/NoSuchElementException" ∧ Q' (some (.int (nI 1))) S') ∨ (X = "java/lang/IndexOutOfBoundsException" ∧ Q' (some (.int (nI 2))) S')) : xt_CtH E l yL_planned cL_planned 4 (some Jvm.ClassFile.FieldType.int) hh_L_planned (fr + 1) (lw + 21) 1 6 [.ref (E.1 0), .int a0, .ref (E.1 67)] S Q' := by
  refine xt_bodyH (by decide +kernel) (xt_all rfl) (Nat.le_of_ble_eq_true rfl) (fun cx C hl9 hx9 => ?_)
  show xt_X E cx _ 0 0 0 [some (.ref (E.1 0)), some (.int a0), some (.ref (E.1 67)), none] [] S
  refine xt_aload_n C dL_planned_0 rfl ?_
  refine xt_iconst (v := nI 0) C dL_planned_1 rfl ?_
  refine xt_aload_n C dL_planned_2 rfl ?_
  refine xt_iload_n C dL_planned_3 rfl ?_
  refine xt_callVX C mv_X5_planned lkL_92 (by rw [hl9]; exact hct) rfl (by decide) (xt_cl0 _ _) rfl ⟨Nat.le_refl _, by show 8 + (2 + 11) + lw ≤ lw + 21; omega, Nat.le_of_ble_eq_true rfl, Nat.le_of_ble_eq_true rfl⟩ rfl (Nat.le_of_ble_eq_true rfl) dL_planned_4 (fun v S9 h9 => ?_) (fun X S9 h9 => ?_)
  · obtain ⟨x, rfl, h8⟩ := hq v S9 h9
    refine xt_i2l C dL_planned_7 rfl ?_
    refine xt_lastN C (by decide) (xt_cl67 _) (by decide) (by decide) dL_planned_8 ?_
    refine xt_goto (tgt := 18) C dL_planned_9 (by decide) ?_
    refine xt_iconst (v := nI 0) C dL_planned_18 rfl ?_
    exact xt_iret C dL_planned_19 ⟨Nat.le_of_ble_eq_true rfl, Nat.le_of_ble_eq_true rfl⟩ h8
  · rcases hx X S9 h9 with ⟨rfl, h8⟩ | ⟨rfl, h8⟩
    · skip
      refine xt_catch (name := "java/util/NoSuchElementException") (hh := hh_L_planned) (pre := []) (x := (0, 9, 12, 95)) (suf := [(0, 9, 15, 26)]) C hx9 rfl (fun _ h => absurd h List.not_mem_nil) (by decide) (by decide) lkcL_95 cst_NSEE_NSEE (fun q => ?_)
      refine xt_astore_n C dL_planned_12 (Nat.le_of_ble_eq_true rfl) rfl rfl ?_
      refine xt_iconst (v := nI 1) C dL_planned_13 rfl ?_
      exact xt_iret C dL_planned_14 ⟨Nat.le_of_ble_eq_true rfl, Nat.le_of_ble_eq_true rfl⟩ h8
    · skip
      refine xt_catch (name := "java/lang/IndexOutOfBoundsException") (hh := hh_L_planned) (pre := [(0, 9, 12, 95)]) (x := (0, 9, 15, 26)) (suf := []) C hx9 rfl (List.forall_mem_cons.mpr ⟨⟨"java/util/NoSuchElementException", by decide, lkcL_95, List.mem_of_getElem? (i := 4) rfl⟩, fun _ h => absurd h List.not_mem_nil⟩) (by decide) (by decide) lkcL_26 cst_IOOBE_IOOBE (fun q => ?_)
      refine xt_astore_n C dL_planned_15 (Nat.le_of_ble_eq_true rfl) rfl rfl ?_
      refine xt_iconst (v := nI 2) C dL_planned_16 rfl ?_
      exact xt_iret C dL_planned_17 ⟨Nat.le_of_ble_eq_true rfl, Nat.le_of_ble_eq_true rfl⟩ h8
set_option maxRecDepth 20000 in
set_option maxHeartbeats 1000000 in
theorem wr_feed {a0 : Int32} (hct : xt_CtX E l yX5_feed cX5_feed 2 (some Jvm.ClassFile.FieldType.int) fr lw 1 6 (.ref (E.1 0) :: [.int a0]) S Q QX) (hq : ∀ v S', Q v S' → ∃ x : Int32, v = some (.int x) ∧ Q' (some (.int (nI 0))) (xt_sB S' 67 (vp_updL (S'.2.2.1 67) 0 x.toInt64))) (hx : ∀ X S', QX X S' → (X = "java/lang/IllegalStateException" ∧ Q' (some (.int (nI 1))) S')) : xt_CtH E l yL_feed cL_feed 4 (some Jvm.ClassFile.FieldType.int) hh_L_feed (fr + 1) (lw + 21) 1 6 [.ref (E.1 0), .int a0, .ref (E.1 67)] S Q' := by
  refine xt_bodyH (by decide +kernel) (xt_all rfl) (Nat.le_of_ble_eq_true rfl) (fun cx C hl9 hx9 => ?_)
  show xt_X E cx _ 0 0 0 [some (.ref (E.1 0)), some (.int a0), some (.ref (E.1 67)), none] [] S
  refine xt_aload_n C dL_feed_0 rfl ?_
  refine xt_iconst (v := nI 0) C dL_feed_1 rfl ?_
  refine xt_aload_n C dL_feed_2 rfl ?_
  refine xt_iload_n C dL_feed_3 rfl ?_
  refine xt_callVX C mv_X5_feed lkL_97 (by rw [hl9]; exact hct) rfl (by decide) (xt_cl0 _ _) rfl ⟨Nat.le_refl _, by show 8 + (2 + 11) + lw ≤ lw + 21; omega, Nat.le_of_ble_eq_true rfl, Nat.le_of_ble_eq_true rfl⟩ rfl (Nat.le_of_ble_eq_true rfl) dL_feed_4 (fun v S9 h9 => ?_) (fun X S9 h9 => ?_)
  · obtain ⟨x, rfl, h8⟩ := hq v S9 h9
    refine xt_i2l C dL_feed_7 rfl ?_
    refine xt_lastN C (by decide) (xt_cl67 _) (by decide) (by decide) dL_feed_8 ?_
    refine xt_goto (tgt := 15) C dL_feed_9 (by decide) ?_
    refine xt_iconst (v := nI 0) C dL_feed_15 rfl ?_
    exact xt_iret C dL_feed_16 ⟨Nat.le_of_ble_eq_true rfl, Nat.le_of_ble_eq_true rfl⟩ h8
  · obtain ⟨rfl, h8⟩ := hx X S9 h9
    refine xt_catch (name := "java/lang/IllegalStateException") (hh := hh_L_feed) (pre := []) (x := (0, 9, 12, 101)) (suf := []) C hx9 rfl (fun _ h => absurd h List.not_mem_nil) (by decide) (by decide) lkcL_101 cst_ISE_ISE (fun q => ?_)
    refine xt_astore_n C dL_feed_12 (Nat.le_of_ble_eq_true rfl) rfl rfl ?_
    refine xt_iconst (v := nI 1) C dL_feed_13 rfl ?_
    exact xt_iret C dL_feed_14 ⟨Nat.le_of_ble_eq_true rfl, Nat.le_of_ble_eq_true rfl⟩ h8
set_option maxRecDepth 20000 in
set_option maxHeartbeats 1000000 in
theorem wr_read (hct : xt_CtX E l yX5_read cX5_read 4 (some Jvm.ClassFile.FieldType.int) fr lw 1 6 (.ref (E.1 0) :: []) S Q QX) (hq : ∀ v S', Q v S' → ∃ x : Int32, v = some (.int x) ∧ Q' (some (.int (nI 0))) (xt_sB S' 67 (vp_updL (S'.2.2.1 67) 0 x.toInt64))) (hx : ∀ X S', QX X S' → (X = "java/lang/IllegalArgumentException" ∧ Q' (some (.int (nI 1))) S') ∨ (X = "java/lang/UnsupportedOperationException" ∧ Q' (some (.int (nI 2))) S')) : xt_CtH E l yL_read cL_read 3 (some Jvm.ClassFile.FieldType.int) hh_L_read (fr + 1) (lw + 23) 1 6 [.ref (E.1 0), .ref (E.1 67)] S Q' := by
  refine xt_bodyH (by decide +kernel) (xt_all rfl) (Nat.le_of_ble_eq_true rfl) (fun cx C hl9 hx9 => ?_)
  show xt_X E cx _ 0 0 0 [some (.ref (E.1 0)), some (.ref (E.1 67)), none] [] S
  refine xt_aload_n C dL_read_0 rfl ?_
  refine xt_iconst (v := nI 0) C dL_read_1 rfl ?_
  refine xt_aload_n C dL_read_2 rfl ?_
  refine xt_callVX C mv_X5_read lkL_103 (by rw [hl9]; exact hct) rfl (by decide) (xt_cl0 _ _) rfl ⟨Nat.le_refl _, by show 8 + (4 + 11) + lw ≤ lw + 23; omega, Nat.le_of_ble_eq_true rfl, Nat.le_of_ble_eq_true rfl⟩ rfl (Nat.le_of_ble_eq_true rfl) dL_read_3 (fun v S9 h9 => ?_) (fun X S9 h9 => ?_)
  · obtain ⟨x, rfl, h8⟩ := hq v S9 h9
    refine xt_i2l C dL_read_6 rfl ?_
    refine xt_lastN C (by decide) (xt_cl67 _) (by decide) (by decide) dL_read_7 ?_
    refine xt_goto (tgt := 17) C dL_read_8 (by decide) ?_
    refine xt_iconst (v := nI 0) C dL_read_17 rfl ?_
    exact xt_iret C dL_read_18 ⟨Nat.le_of_ble_eq_true rfl, Nat.le_of_ble_eq_true rfl⟩ h8
  · rcases hx X S9 h9 with ⟨rfl, h8⟩ | ⟨rfl, h8⟩
    · skip
      refine xt_catch (name := "java/lang/IllegalArgumentException") (hh := hh_L_read) (pre := []) (x := (0, 8, 11, 13)) (suf := [(0, 8, 14, 48)]) C hx9 rfl (fun _ h => absurd h List.not_mem_nil) (by decide) (by decide) lkcL_13 cst_IAE_IAE (fun q => ?_)
      refine xt_astore_n C dL_read_11 (Nat.le_of_ble_eq_true rfl) rfl rfl ?_
      refine xt_iconst (v := nI 1) C dL_read_12 rfl ?_
      exact xt_iret C dL_read_13 ⟨Nat.le_of_ble_eq_true rfl, Nat.le_of_ble_eq_true rfl⟩ h8
    · skip
      refine xt_catch (name := "java/lang/UnsupportedOperationException") (hh := hh_L_read) (pre := [(0, 8, 11, 13)]) (x := (0, 8, 14, 48)) (suf := []) C hx9 rfl (List.forall_mem_cons.mpr ⟨⟨"java/lang/IllegalArgumentException", by decide, lkcL_13, List.mem_of_getElem? (i := 2) rfl⟩, fun _ h => absurd h List.not_mem_nil⟩) (by decide) (by decide) lkcL_48 cst_UOE_UOE (fun q => ?_)
      refine xt_astore_n C dL_read_14 (Nat.le_of_ble_eq_true rfl) rfl rfl ?_
      refine xt_iconst (v := nI 2) C dL_read_15 rfl ?_
      exact xt_iret C dL_read_16 ⟨Nat.le_of_ble_eq_true rfl, Nat.le_of_ble_eq_true rfl⟩ h8
set_option maxRecDepth 20000 in
set_option maxHeartbeats 1000000 in
theorem wr_faultPosition (hct : xt_CtX E l yX5_faultPosition cX5_faultPosition 1 (some Jvm.ClassFile.FieldType.int) fr lw 1 6 (.ref (E.1 0) :: []) S Q QX) (hq : ∀ v S', Q v S' → ∃ x : Int32, v = some (.int x) ∧ Q' (some (.int (nI 0))) (xt_sB S' 67 (vp_updL (S'.2.2.1 67) 0 x.toInt64))) (hx : ∀ X S', QX X S' → (X = "java/util/NoSuchElementException" ∧ Q' (some (.int (nI 1))) S')) : xt_CtH E l yL_faultPosition cL_faultPosition 3 (some Jvm.ClassFile.FieldType.int) hh_L_faultPosition (fr + 1) (lw + 20) 1 6 [.ref (E.1 0), .ref (E.1 67)] S Q' := by
  refine xt_bodyH (by decide +kernel) (xt_all rfl) (Nat.le_of_ble_eq_true rfl) (fun cx C hl9 hx9 => ?_)
  show xt_X E cx _ 0 0 0 [some (.ref (E.1 0)), some (.ref (E.1 67)), none] [] S
  refine xt_aload_n C dL_faultPosition_0 rfl ?_
  refine xt_iconst (v := nI 0) C dL_faultPosition_1 rfl ?_
  refine xt_aload_n C dL_faultPosition_2 rfl ?_
  refine xt_callVX C mv_X5_faultPosition lkL_107 (by rw [hl9]; exact hct) rfl (by decide) (xt_cl0 _ _) rfl ⟨Nat.le_refl _, by show 8 + (1 + 11) + lw ≤ lw + 20; omega, Nat.le_of_ble_eq_true rfl, Nat.le_of_ble_eq_true rfl⟩ rfl (Nat.le_of_ble_eq_true rfl) dL_faultPosition_3 (fun v S9 h9 => ?_) (fun X S9 h9 => ?_)
  · obtain ⟨x, rfl, h8⟩ := hq v S9 h9
    refine xt_i2l C dL_faultPosition_6 rfl ?_
    refine xt_lastN C (by decide) (xt_cl67 _) (by decide) (by decide) dL_faultPosition_7 ?_
    refine xt_goto (tgt := 14) C dL_faultPosition_8 (by decide) ?_
    refine xt_iconst (v := nI 0) C dL_faultPosition_14 rfl ?_
    exact xt_iret C dL_faultPosition_15 ⟨Nat.le_of_ble_eq_true rfl, Nat.le_of_ble_eq_true rfl⟩ h8
  · obtain ⟨rfl, h8⟩ := hx X S9 h9
    refine xt_catch (name := "java/util/NoSuchElementException") (hh := hh_L_faultPosition) (pre := []) (x := (0, 8, 11, 95)) (suf := []) C hx9 rfl (fun _ h => absurd h List.not_mem_nil) (by decide) (by decide) lkcL_95 cst_NSEE_NSEE (fun q => ?_)
    refine xt_astore_n C dL_faultPosition_11 (Nat.le_of_ble_eq_true rfl) rfl rfl ?_
    refine xt_iconst (v := nI 1) C dL_faultPosition_12 rfl ?_
    exact xt_iret C dL_faultPosition_13 ⟨Nat.le_of_ble_eq_true rfl, Nat.le_of_ble_eq_true rfl⟩ h8
set_option maxRecDepth 20000 in
set_option maxHeartbeats 1000000 in
theorem wr_refusal {a0 : Int32} (hct : xt_CtX E l yX5_refusal cX5_refusal 2 (some Jvm.ClassFile.FieldType.int) fr lw 1 6 (.ref (E.1 0) :: [.int a0]) S Q QX) (hq : ∀ v S', Q v S' → ∃ x : Int32, v = some (.int x) ∧ Q' (some (.int (nI 0))) (xt_sB S' 67 (vp_updL (S'.2.2.1 67) 0 x.toInt64))) (hx : ∀ X S', QX X S' → (X = "java/util/NoSuchElementException" ∧ Q' (some (.int (nI 1))) S')) : xt_CtH E l yL_refusal cL_refusal 4 (some Jvm.ClassFile.FieldType.int) hh_L_refusal (fr + 1) (lw + 21) 1 6 [.ref (E.1 0), .int a0, .ref (E.1 67)] S Q' := by
  refine xt_bodyH (by decide +kernel) (xt_all rfl) (Nat.le_of_ble_eq_true rfl) (fun cx C hl9 hx9 => ?_)
  show xt_X E cx _ 0 0 0 [some (.ref (E.1 0)), some (.int a0), some (.ref (E.1 67)), none] [] S
  refine xt_aload_n C dL_refusal_0 rfl ?_
  refine xt_iconst (v := nI 0) C dL_refusal_1 rfl ?_
  refine xt_aload_n C dL_refusal_2 rfl ?_
  refine xt_iload_n C dL_refusal_3 rfl ?_
  refine xt_callVX C mv_X5_refusal lkL_110 (by rw [hl9]; exact hct) rfl (by decide) (xt_cl0 _ _) rfl ⟨Nat.le_refl _, by show 8 + (2 + 11) + lw ≤ lw + 21; omega, Nat.le_of_ble_eq_true rfl, Nat.le_of_ble_eq_true rfl⟩ rfl (Nat.le_of_ble_eq_true rfl) dL_refusal_4 (fun v S9 h9 => ?_) (fun X S9 h9 => ?_)
  · obtain ⟨x, rfl, h8⟩ := hq v S9 h9
    refine xt_i2l C dL_refusal_7 rfl ?_
    refine xt_lastN C (by decide) (xt_cl67 _) (by decide) (by decide) dL_refusal_8 ?_
    refine xt_goto (tgt := 15) C dL_refusal_9 (by decide) ?_
    refine xt_iconst (v := nI 0) C dL_refusal_15 rfl ?_
    exact xt_iret C dL_refusal_16 ⟨Nat.le_of_ble_eq_true rfl, Nat.le_of_ble_eq_true rfl⟩ h8
  · obtain ⟨rfl, h8⟩ := hx X S9 h9
    refine xt_catch (name := "java/util/NoSuchElementException") (hh := hh_L_refusal) (pre := []) (x := (0, 9, 12, 95)) (suf := []) C hx9 rfl (fun _ h => absurd h List.not_mem_nil) (by decide) (by decide) lkcL_95 cst_NSEE_NSEE (fun q => ?_)
    refine xt_astore_n C dL_refusal_12 (Nat.le_of_ble_eq_true rfl) rfl rfl ?_
    refine xt_iconst (v := nI 1) C dL_refusal_13 rfl ?_
    exact xt_iret C dL_refusal_14 ⟨Nat.le_of_ble_eq_true rfl, Nat.le_of_ble_eq_true rfl⟩ h8
set_option maxRecDepth 20000 in
set_option maxHeartbeats 1000000 in
theorem wr_undo (hct : xt_CtX E l yX5_undo cX5_undo 1 (some Jvm.ClassFile.FieldType.int) fr lw 1 6 (.ref (E.1 0) :: []) S Q QX) (hq : ∀ v S', Q v S' → ∃ x : Int32, v = some (.int x) ∧ Q' (some (.int (nI 0))) (xt_sB S' 67 (vp_updL (S'.2.2.1 67) 0 x.toInt64))) (hx : ∀ X S', QX X S' → (X = "java/lang/IllegalStateException" ∧ Q' (some (.int (nI 1))) S')) : xt_CtH E l yL_undo cL_undo 3 (some Jvm.ClassFile.FieldType.int) hh_L_undo (fr + 1) (lw + 20) 1 6 [.ref (E.1 0), .ref (E.1 67)] S Q' := by
  refine xt_bodyH (by decide +kernel) (xt_all rfl) (Nat.le_of_ble_eq_true rfl) (fun cx C hl9 hx9 => ?_)
  show xt_X E cx _ 0 0 0 [some (.ref (E.1 0)), some (.ref (E.1 67)), none] [] S
  refine xt_aload_n C dL_undo_0 rfl ?_
  refine xt_iconst (v := nI 0) C dL_undo_1 rfl ?_
  refine xt_aload_n C dL_undo_2 rfl ?_
  refine xt_callVX C mv_X5_undo lkL_114 (by rw [hl9]; exact hct) rfl (by decide) (xt_cl0 _ _) rfl ⟨Nat.le_refl _, by show 8 + (1 + 11) + lw ≤ lw + 20; omega, Nat.le_of_ble_eq_true rfl, Nat.le_of_ble_eq_true rfl⟩ rfl (Nat.le_of_ble_eq_true rfl) dL_undo_3 (fun v S9 h9 => ?_) (fun X S9 h9 => ?_)
  · obtain ⟨x, rfl, h8⟩ := hq v S9 h9
    refine xt_i2l C dL_undo_6 rfl ?_
    refine xt_lastN C (by decide) (xt_cl67 _) (by decide) (by decide) dL_undo_7 ?_
    refine xt_goto (tgt := 14) C dL_undo_8 (by decide) ?_
    refine xt_iconst (v := nI 0) C dL_undo_14 rfl ?_
    exact xt_iret C dL_undo_15 ⟨Nat.le_of_ble_eq_true rfl, Nat.le_of_ble_eq_true rfl⟩ h8
  · obtain ⟨rfl, h8⟩ := hx X S9 h9
    refine xt_catch (name := "java/lang/IllegalStateException") (hh := hh_L_undo) (pre := []) (x := (0, 8, 11, 101)) (suf := []) C hx9 rfl (fun _ h => absurd h List.not_mem_nil) (by decide) (by decide) lkcL_101 cst_ISE_ISE (fun q => ?_)
    refine xt_astore_n C dL_undo_11 (Nat.le_of_ble_eq_true rfl) rfl rfl ?_
    refine xt_iconst (v := nI 1) C dL_undo_12 rfl ?_
    exact xt_iret C dL_undo_13 ⟨Nat.le_of_ble_eq_true rfl, Nat.le_of_ble_eq_true rfl⟩ h8
set_option maxRecDepth 20000 in
set_option maxHeartbeats 1000000 in
theorem wr_restoreSnapshot (hct : xt_CtX E l yX5_restoreSnapshot cX5_restoreSnapshot 1 (some Jvm.ClassFile.FieldType.int) fr lw 1 6 (.ref (E.1 0) :: []) S Q QX) (hq : ∀ v S', Q v S' → ∃ x : Int32, v = some (.int x) ∧ Q' (some (.int (nI 0))) (xt_sB S' 67 (vp_updL (S'.2.2.1 67) 0 x.toInt64))) (hx : ∀ X S', QX X S' → (X = "java/lang/IllegalStateException" ∧ Q' (some (.int (nI 1))) S')) : xt_CtH E l yL_restoreSnapshot cL_restoreSnapshot 3 (some Jvm.ClassFile.FieldType.int) hh_L_restoreSnapshot (fr + 1) (lw + 20) 1 6 [.ref (E.1 0), .ref (E.1 67)] S Q' := by
  refine xt_bodyH (by decide +kernel) (xt_all rfl) (Nat.le_of_ble_eq_true rfl) (fun cx C hl9 hx9 => ?_)
  show xt_X E cx _ 0 0 0 [some (.ref (E.1 0)), some (.ref (E.1 67)), none] [] S
  refine xt_aload_n C dL_restoreSnapshot_0 rfl ?_
  refine xt_iconst (v := nI 0) C dL_restoreSnapshot_1 rfl ?_
  refine xt_aload_n C dL_restoreSnapshot_2 rfl ?_
  refine xt_callVX C mv_X5_restoreSnapshot lkL_117 (by rw [hl9]; exact hct) rfl (by decide) (xt_cl0 _ _) rfl ⟨Nat.le_refl _, by show 8 + (1 + 11) + lw ≤ lw + 20; omega, Nat.le_of_ble_eq_true rfl, Nat.le_of_ble_eq_true rfl⟩ rfl (Nat.le_of_ble_eq_true rfl) dL_restoreSnapshot_3 (fun v S9 h9 => ?_) (fun X S9 h9 => ?_)
  · obtain ⟨x, rfl, h8⟩ := hq v S9 h9
    refine xt_i2l C dL_restoreSnapshot_6 rfl ?_
    refine xt_lastN C (by decide) (xt_cl67 _) (by decide) (by decide) dL_restoreSnapshot_7 ?_
    refine xt_goto (tgt := 14) C dL_restoreSnapshot_8 (by decide) ?_
    refine xt_iconst (v := nI 0) C dL_restoreSnapshot_14 rfl ?_
    exact xt_iret C dL_restoreSnapshot_15 ⟨Nat.le_of_ble_eq_true rfl, Nat.le_of_ble_eq_true rfl⟩ h8
  · obtain ⟨rfl, h8⟩ := hx X S9 h9
    refine xt_catch (name := "java/lang/IllegalStateException") (hh := hh_L_restoreSnapshot) (pre := []) (x := (0, 8, 11, 101)) (suf := []) C hx9 rfl (fun _ h => absurd h List.not_mem_nil) (by decide) (by decide) lkcL_101 cst_ISE_ISE (fun q => ?_)
    refine xt_astore_n C dL_restoreSnapshot_11 (Nat.le_of_ble_eq_true rfl) rfl rfl ?_
    refine xt_iconst (v := nI 1) C dL_restoreSnapshot_12 rfl ?_
    exact xt_iret C dL_restoreSnapshot_13 ⟨Nat.le_of_ble_eq_true rfl, Nat.le_of_ble_eq_true rfl⟩ h8
end XC41
