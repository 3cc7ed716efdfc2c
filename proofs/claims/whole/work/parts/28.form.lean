/-! THE SCRIPT: which form, what fits it, where a fitting piece ends -/
section XC20
variable {E : xt_Ev} {l : Launch} {S : xt_St}
set_option maxRecDepth 20000 in
set_option maxHeartbeats 2000000 in
theorem ct_formOf {x : Int32} : xt_Ct E l yX3_formOf cX3_formOf 1 (some (Jvm.ClassFile.FieldType.object "java/lang/String")) 0 0 0 0 [.int x] S (xt_Eq (some (.ref (E.2.2.2.2.1 (xt_fo x)))) S) := by
  refine xt_body (by decide +kernel) (xt_all rfl) (Nat.le_of_ble_eq_true rfl) (fun cx C hl9 => ?_)
  show xt_X E cx _ 0 0 0 [some (.int x)] [] S
  refine xt_iload_n C dX3_formOf_0 rfl ?_
  by_cases hx : nI 98 ≤ x ∧ x ≤ nI 117
  · have h1 := Int32.le_iff_toInt_le.mp hx.1
    rw [show (nI 98).toInt = 98 from by decide +kernel] at h1
    obtain ⟨j, hj, rfl⟩ := (xt_btw (x := x) (m := 117) (by decide)).mp ⟨Int32.le_iff_toInt_le.mpr (by rw [show (nI 0).toInt = 0 from by decide +kernel]; omega), hx.2⟩
    rw [nI_toInt (by omega)] at h1
    have h2 : 98 ≤ j := by omega
    rcases (by omega : j = 98 ∨ j = 99 ∨ j = 100 ∨ j = 101 ∨ j = 102 ∨ j = 103 ∨ j = 104 ∨ j = 105 ∨ j = 106 ∨ j = 107 ∨ j = 108 ∨ j = 109 ∨ j = 110 ∨ j = 111 ∨ j = 112 ∨ j = 113 ∨ j = 114 ∨ j = 115 ∨ j = 116 ∨ j = 117) with rfl | rfl | rfl | rfl | rfl | rfl | rfl | rfl | rfl | rfl | rfl | rfl | rfl | rfl | rfl | rfl | rfl | rfl | rfl | rfl
    · refine xt_tabIn (tgt := 102) C dX3_formOf_1 (by decide +kernel) (by decide +kernel) rfl (by decide) ?_
      refine xt_ldcS (i := 23) C rfl dX3_formOf_102 ?_
      exact xt_aret C (Or.inl ⟨_, rfl⟩) (Or.inr ⟨_, rfl⟩) dX3_formOf_104 ⟨by decide, by decide⟩ (by first | exact ⟨rfl, rfl⟩ | exact ⟨congrArg (fun z => some (Value.ref (E.2.2.2.2.1 z))) (by decide +kernel), rfl⟩)
    · refine xt_tabIn (tgt := 105) C dX3_formOf_1 (by decide +kernel) (by decide +kernel) rfl (by decide) ?_
      refine xt_ldcS (i := 24) C rfl dX3_formOf_105 ?_
      exact xt_aret C (Or.inl ⟨_, rfl⟩) (Or.inr ⟨_, rfl⟩) dX3_formOf_107 ⟨by decide, by decide⟩ (by first | exact ⟨rfl, rfl⟩ | exact ⟨congrArg (fun z => some (Value.ref (E.2.2.2.2.1 z))) (by decide +kernel), rfl⟩)
    · refine xt_tabIn (tgt := 105) C dX3_formOf_1 (by decide +kernel) (by decide +kernel) rfl (by decide) ?_
      refine xt_ldcS (i := 24) C rfl dX3_formOf_105 ?_
      exact xt_aret C (Or.inl ⟨_, rfl⟩) (Or.inr ⟨_, rfl⟩) dX3_formOf_107 ⟨by decide, by decide⟩ (by first | exact ⟨rfl, rfl⟩ | exact ⟨congrArg (fun z => some (Value.ref (E.2.2.2.2.1 z))) (by decide +kernel), rfl⟩)
    · refine xt_tabIn (tgt := 105) C dX3_formOf_1 (by decide +kernel) (by decide +kernel) rfl (by decide) ?_
      refine xt_ldcS (i := 24) C rfl dX3_formOf_105 ?_
      exact xt_aret C (Or.inl ⟨_, rfl⟩) (Or.inr ⟨_, rfl⟩) dX3_formOf_107 ⟨by decide, by decide⟩ (by first | exact ⟨rfl, rfl⟩ | exact ⟨congrArg (fun z => some (Value.ref (E.2.2.2.2.1 z))) (by decide +kernel), rfl⟩)
    · refine xt_tabIn (tgt := 105) C dX3_formOf_1 (by decide +kernel) (by decide +kernel) rfl (by decide) ?_
      refine xt_ldcS (i := 24) C rfl dX3_formOf_105 ?_
      exact xt_aret C (Or.inl ⟨_, rfl⟩) (Or.inr ⟨_, rfl⟩) dX3_formOf_107 ⟨by decide, by decide⟩ (by first | exact ⟨rfl, rfl⟩ | exact ⟨congrArg (fun z => some (Value.ref (E.2.2.2.2.1 z))) (by decide +kernel), rfl⟩)
    · refine xt_tabIn (tgt := 105) C dX3_formOf_1 (by decide +kernel) (by decide +kernel) rfl (by decide) ?_
      refine xt_ldcS (i := 24) C rfl dX3_formOf_105 ?_
      exact xt_aret C (Or.inl ⟨_, rfl⟩) (Or.inr ⟨_, rfl⟩) dX3_formOf_107 ⟨by decide, by decide⟩ (by first | exact ⟨rfl, rfl⟩ | exact ⟨congrArg (fun z => some (Value.ref (E.2.2.2.2.1 z))) (by decide +kernel), rfl⟩)
    · refine xt_tabIn (tgt := 105) C dX3_formOf_1 (by decide +kernel) (by decide +kernel) rfl (by decide) ?_
      refine xt_ldcS (i := 24) C rfl dX3_formOf_105 ?_
      exact xt_aret C (Or.inl ⟨_, rfl⟩) (Or.inr ⟨_, rfl⟩) dX3_formOf_107 ⟨by decide, by decide⟩ (by first | exact ⟨rfl, rfl⟩ | exact ⟨congrArg (fun z => some (Value.ref (E.2.2.2.2.1 z))) (by decide +kernel), rfl⟩)
    · refine xt_tabIn (tgt := 105) C dX3_formOf_1 (by decide +kernel) (by decide +kernel) rfl (by decide) ?_
      refine xt_ldcS (i := 24) C rfl dX3_formOf_105 ?_
      exact xt_aret C (Or.inl ⟨_, rfl⟩) (Or.inr ⟨_, rfl⟩) dX3_formOf_107 ⟨by decide, by decide⟩ (by first | exact ⟨rfl, rfl⟩ | exact ⟨congrArg (fun z => some (Value.ref (E.2.2.2.2.1 z))) (by decide +kernel), rfl⟩)
    · refine xt_tabIn (tgt := 105) C dX3_formOf_1 (by decide +kernel) (by decide +kernel) rfl (by decide) ?_
      refine xt_ldcS (i := 24) C rfl dX3_formOf_105 ?_
      exact xt_aret C (Or.inl ⟨_, rfl⟩) (Or.inr ⟨_, rfl⟩) dX3_formOf_107 ⟨by decide, by decide⟩ (by first | exact ⟨rfl, rfl⟩ | exact ⟨congrArg (fun z => some (Value.ref (E.2.2.2.2.1 z))) (by decide +kernel), rfl⟩)
    · refine xt_tabIn (tgt := 105) C dX3_formOf_1 (by decide +kernel) (by decide +kernel) rfl (by decide) ?_
      refine xt_ldcS (i := 24) C rfl dX3_formOf_105 ?_
      exact xt_aret C (Or.inl ⟨_, rfl⟩) (Or.inr ⟨_, rfl⟩) dX3_formOf_107 ⟨by decide, by decide⟩ (by first | exact ⟨rfl, rfl⟩ | exact ⟨congrArg (fun z => some (Value.ref (E.2.2.2.2.1 z))) (by decide +kernel), rfl⟩)
    · refine xt_tabIn (tgt := 102) C dX3_formOf_1 (by decide +kernel) (by decide +kernel) rfl (by decide) ?_
      refine xt_ldcS (i := 23) C rfl dX3_formOf_102 ?_
      exact xt_aret C (Or.inl ⟨_, rfl⟩) (Or.inr ⟨_, rfl⟩) dX3_formOf_104 ⟨by decide, by decide⟩ (by first | exact ⟨rfl, rfl⟩ | exact ⟨congrArg (fun z => some (Value.ref (E.2.2.2.2.1 z))) (by decide +kernel), rfl⟩)
    · refine xt_tabIn (tgt := 99) C dX3_formOf_1 (by decide +kernel) (by decide +kernel) rfl (by decide) ?_
      refine xt_ldcS (i := 22) C rfl dX3_formOf_99 ?_
      exact xt_aret C (Or.inl ⟨_, rfl⟩) (Or.inr ⟨_, rfl⟩) dX3_formOf_101 ⟨by decide, by decide⟩ (by first | exact ⟨rfl, rfl⟩ | exact ⟨congrArg (fun z => some (Value.ref (E.2.2.2.2.1 z))) (by decide +kernel), rfl⟩)
    · refine xt_tabIn (tgt := 105) C dX3_formOf_1 (by decide +kernel) (by decide +kernel) rfl (by decide) ?_
      refine xt_ldcS (i := 24) C rfl dX3_formOf_105 ?_
      exact xt_aret C (Or.inl ⟨_, rfl⟩) (Or.inr ⟨_, rfl⟩) dX3_formOf_107 ⟨by decide, by decide⟩ (by first | exact ⟨rfl, rfl⟩ | exact ⟨congrArg (fun z => some (Value.ref (E.2.2.2.2.1 z))) (by decide +kernel), rfl⟩)
    · refine xt_tabIn (tgt := 105) C dX3_formOf_1 (by decide +kernel) (by decide +kernel) rfl (by decide) ?_
      refine xt_ldcS (i := 24) C rfl dX3_formOf_105 ?_
      exact xt_aret C (Or.inl ⟨_, rfl⟩) (Or.inr ⟨_, rfl⟩) dX3_formOf_107 ⟨by decide, by decide⟩ (by first | exact ⟨rfl, rfl⟩ | exact ⟨congrArg (fun z => some (Value.ref (E.2.2.2.2.1 z))) (by decide +kernel), rfl⟩)
    · refine xt_tabIn (tgt := 105) C dX3_formOf_1 (by decide +kernel) (by decide +kernel) rfl (by decide) ?_
      refine xt_ldcS (i := 24) C rfl dX3_formOf_105 ?_
      exact xt_aret C (Or.inl ⟨_, rfl⟩) (Or.inr ⟨_, rfl⟩) dX3_formOf_107 ⟨by decide, by decide⟩ (by first | exact ⟨rfl, rfl⟩ | exact ⟨congrArg (fun z => some (Value.ref (E.2.2.2.2.1 z))) (by decide +kernel), rfl⟩)
    · refine xt_tabIn (tgt := 105) C dX3_formOf_1 (by decide +kernel) (by decide +kernel) rfl (by decide) ?_
      refine xt_ldcS (i := 24) C rfl dX3_formOf_105 ?_
      exact xt_aret C (Or.inl ⟨_, rfl⟩) (Or.inr ⟨_, rfl⟩) dX3_formOf_107 ⟨by decide, by decide⟩ (by first | exact ⟨rfl, rfl⟩ | exact ⟨congrArg (fun z => some (Value.ref (E.2.2.2.2.1 z))) (by decide +kernel), rfl⟩)
    · refine xt_tabIn (tgt := 96) C dX3_formOf_1 (by decide +kernel) (by decide +kernel) rfl (by decide) ?_
      refine xt_ldcS (i := 21) C rfl dX3_formOf_96 ?_
      exact xt_aret C (Or.inl ⟨_, rfl⟩) (Or.inr ⟨_, rfl⟩) dX3_formOf_98 ⟨by decide, by decide⟩ (by first | exact ⟨rfl, rfl⟩ | exact ⟨congrArg (fun z => some (Value.ref (E.2.2.2.2.1 z))) (by decide +kernel), rfl⟩)
    · refine xt_tabIn (tgt := 105) C dX3_formOf_1 (by decide +kernel) (by decide +kernel) rfl (by decide) ?_
      refine xt_ldcS (i := 24) C rfl dX3_formOf_105 ?_
      exact xt_aret C (Or.inl ⟨_, rfl⟩) (Or.inr ⟨_, rfl⟩) dX3_formOf_107 ⟨by decide, by decide⟩ (by first | exact ⟨rfl, rfl⟩ | exact ⟨congrArg (fun z => some (Value.ref (E.2.2.2.2.1 z))) (by decide +kernel), rfl⟩)
    · refine xt_tabIn (tgt := 102) C dX3_formOf_1 (by decide +kernel) (by decide +kernel) rfl (by decide) ?_
      refine xt_ldcS (i := 23) C rfl dX3_formOf_102 ?_
      exact xt_aret C (Or.inl ⟨_, rfl⟩) (Or.inr ⟨_, rfl⟩) dX3_formOf_104 ⟨by decide, by decide⟩ (by first | exact ⟨rfl, rfl⟩ | exact ⟨congrArg (fun z => some (Value.ref (E.2.2.2.2.1 z))) (by decide +kernel), rfl⟩)
    · refine xt_tabIn (tgt := 99) C dX3_formOf_1 (by decide +kernel) (by decide +kernel) rfl (by decide) ?_
      refine xt_ldcS (i := 22) C rfl dX3_formOf_99 ?_
      exact xt_aret C (Or.inl ⟨_, rfl⟩) (Or.inr ⟨_, rfl⟩) dX3_formOf_101 ⟨by decide, by decide⟩ (by first | exact ⟨rfl, rfl⟩ | exact ⟨congrArg (fun z => some (Value.ref (E.2.2.2.2.1 z))) (by decide +kernel), rfl⟩)
  · have hg : x.toInt < 98 ∨ 117 < x.toInt := by
      apply Classical.byContradiction
      intro h9
      exact hx ⟨Int32.le_iff_toInt_le.mpr (by rw [show (nI 98).toInt = 98 from by decide +kernel]; omega), Int32.le_iff_toInt_le.mpr (by rw [show (nI 117).toInt = 117 from by decide +kernel]; omega)⟩
    have hne : ∀ m : Nat, 98 ≤ m → m ≤ 117 → x ≠ nI m := fun m h1 h2 e => by rw [e, nI_toInt (by omega)] at hg; omega
    have hf : xt_fo x = 24 := by unfold xt_fo; rw [if_neg (hne 114 (by decide) (by decide)), if_neg (by rintro (h | h); exact hne _ (by decide) (by decide) h; exact hne _ (by decide) (by decide) h), if_neg (by rintro (h | h | h); exact hne _ (by decide) (by decide) h; exact hne _ (by decide) (by decide) h; exact hne _ (by decide) (by decide) h)]
    rw [hf]
    refine xt_tabOut (tgt := 105) C dX3_formOf_1 hg (by decide) ?_
    refine xt_ldcS (i := 24) C rfl dX3_formOf_105 ?_
    exact xt_aret C (Or.inl ⟨_, rfl⟩) (Or.inr ⟨_, rfl⟩) dX3_formOf_107 ⟨by decide, by decide⟩ ⟨rfl, rfl⟩
def xt_so (x : Int32) : Int32 := if x = nI 116 then nI 0 else if x = nI 108 then nI 1 else if x = nI 98 then nI 2 else -1
theorem xt_ft61 {x : Int32} : xt_ft (nI 61) x = (x = nI 61) := rfl
theorem xt_ft82 {x : Int32} : xt_ft (nI 82) x = (nI 65 ≤ x ∧ x ≤ nI 80) := rfl
theorem xt_ft99 {x : Int32} : xt_ft (nI 99) x = (nI 97 ≤ x ∧ x ≤ nI 112) := rfl
theorem xt_ft100 {x : Int32} : xt_ft (nI 100) x = (nI 48 ≤ x ∧ x ≤ nI 57) := rfl
theorem xt_ft104 {x : Int32} : xt_ft (nI 104) x = ((nI 48 ≤ x ∧ x ≤ nI 57) ∨ (nI 97 ≤ x ∧ x ≤ nI 102)) := rfl
theorem xt_nb (P : Prop) : narrow .boolean (.int (xt_b P)) = .int (xt_b P) := by
  unfold xt_b
  split <;> decide
set_option maxRecDepth 20000 in
set_option maxHeartbeats 2000000 in
theorem ct_fits {c x : Int32} (hc : c = nI 61 ∨ c = nI 82 ∨ c = nI 99 ∨ c = nI 100 ∨ c = nI 104) : xt_Ct E l yX3_fits cX3_fits 2 (some Jvm.ClassFile.FieldType.boolean) 1 22 0 0 [.int c, .int x] S (xt_Eq (some (.int (xt_b (xt_ft c x)))) S) := by
  refine xt_body (by decide +kernel) (xt_all rfl) (Nat.le_of_ble_eq_true rfl) (fun cx C hl9 => ?_)
  show xt_X E cx _ 0 0 0 [some (.int c), some (.int x)] [] S
  refine xt_iload_n C dX3_fits_0 rfl ?_
  rcases hc with rfl | rfl | rfl | rfl | rfl
  · rw [show xt_ft (nI 61) x = (x = nI 61) from xt_ft61]
    refine xt_lookup (off := 98) (tgt := 99) C dX3_fits_1 (by decide +kernel) (by decide +kernel) (by decide) ?_
    refine xt_iload_n C dX3_fits_99 rfl ?_
    refine xt_iload_n C dX3_fits_100 rfl ?_
    refine xt_icmp_ne (tgt := 108) C dX3_fits_101 (by decide) (fun c101 => ?_) (fun c101 => ?_)
    · refine xt_iconst (v := nI 0) C dX3_fits_108 rfl ?_
      exact xt_zret C dX3_fits_109 (by decide) ⟨by decide, by decide⟩ (by first | exact xt_q1 c101 | exact xt_q0 c101)
    · refine xt_iconst (v := nI 1) C dX3_fits_104 rfl ?_
      refine xt_goto (tgt := 109) C dX3_fits_105 (by decide) ?_
      exact xt_zret C dX3_fits_109 (by decide) ⟨by decide, by decide⟩ (by first | exact xt_q1 c101 | exact xt_q0 c101)
  · rw [show xt_ft (nI 82) x = (nI 65 ≤ x ∧ x ≤ nI 80) from xt_ft82]
    refine xt_lookup (off := 52) (tgt := 53) C dX3_fits_1 (by decide +kernel) (by decide +kernel) (by decide) ?_
    refine xt_iload_n C dX3_fits_53 rfl ?_
    refine xt_bipush (v := nI 65) C dX3_fits_54 (by decide) ?_
    refine xt_bipush (v := nI 80) C dX3_fits_56 (by decide) ?_
    refine xt_cSN C ms_X5_isBetween lkX3_67 ct_between rfl (by decide) rfl (Nat.le_of_ble_eq_true rfl) dX3_fits_58 ?_
    exact xt_zret C dX3_fits_61 (xt_nb _) ⟨by decide, by decide⟩ ⟨rfl, rfl⟩
  · rw [show xt_ft (nI 99) x = (nI 97 ≤ x ∧ x ≤ nI 112) from xt_ft99]
    refine xt_lookup (off := 43) (tgt := 44) C dX3_fits_1 (by decide +kernel) (by decide +kernel) (by decide) ?_
    refine xt_iload_n C dX3_fits_44 rfl ?_
    refine xt_bipush (v := nI 97) C dX3_fits_45 (by decide) ?_
    refine xt_bipush (v := nI 112) C dX3_fits_47 (by decide) ?_
    refine xt_cSN C ms_X5_isBetween lkX3_67 ct_between rfl (by decide) rfl (Nat.le_of_ble_eq_true rfl) dX3_fits_49 ?_
    exact xt_zret C dX3_fits_52 (xt_nb _) ⟨by decide, by decide⟩ ⟨rfl, rfl⟩
  · rw [show xt_ft (nI 100) x = (nI 48 ≤ x ∧ x ≤ nI 57) from xt_ft100]
    refine xt_lookup (off := 89) (tgt := 90) C dX3_fits_1 (by decide +kernel) (by decide +kernel) (by decide) ?_
    refine xt_iload_n C dX3_fits_90 rfl ?_
    refine xt_bipush (v := nI 48) C dX3_fits_91 (by decide) ?_
    refine xt_bipush (v := nI 57) C dX3_fits_93 (by decide) ?_
    refine xt_cSN C ms_X5_isBetween lkX3_67 ct_between rfl (by decide) rfl (Nat.le_of_ble_eq_true rfl) dX3_fits_95 ?_
    exact xt_zret C dX3_fits_98 (xt_nb _) ⟨by decide, by decide⟩ ⟨rfl, rfl⟩
  · rw [show xt_ft (nI 104) x = ((nI 48 ≤ x ∧ x ≤ nI 57) ∨ (nI 97 ≤ x ∧ x ≤ nI 102)) from xt_ft104]
    refine xt_lookup (off := 61) (tgt := 62) C dX3_fits_1 (by decide +kernel) (by decide +kernel) (by decide) ?_
    refine xt_iload_n C dX3_fits_62 rfl ?_
    refine xt_bipush (v := nI 48) C dX3_fits_63 (by decide) ?_
    refine xt_bipush (v := nI 57) C dX3_fits_65 (by decide) ?_
    refine xt_cSN C ms_X5_isBetween lkX3_67 ct_between rfl (by decide) rfl (Nat.le_of_ble_eq_true rfl) dX3_fits_67 ?_
    refine xt_if_neB (tgt := 84) C dX3_fits_70 (by decide) (fun c70 => ?_) (fun c70 => ?_)
    · refine xt_iconst (v := nI 1) C dX3_fits_84 rfl ?_
      refine xt_goto (tgt := 89) C dX3_fits_85 (by decide) ?_
      exact xt_zret C dX3_fits_89 (by decide) ⟨by decide, by decide⟩ (by first | exact xt_q1 (Or.inl c70) | exact xt_q1 (Or.inr c81) | exact xt_q0 (by rintro (h | h); exact c70 h; exact c81 h))
    · refine xt_iload_n C dX3_fits_73 rfl ?_
      refine xt_bipush (v := nI 97) C dX3_fits_74 (by decide) ?_
      refine xt_bipush (v := nI 102) C dX3_fits_76 (by decide) ?_
      refine xt_cSN C ms_X5_isBetween lkX3_67 ct_between rfl (by decide) rfl (Nat.le_of_ble_eq_true rfl) dX3_fits_78 ?_
      refine xt_if_eqB (tgt := 88) C dX3_fits_81 (by decide) (fun c81 => ?_) (fun c81 => ?_)
      · refine xt_iconst (v := nI 0) C dX3_fits_88 rfl ?_
        exact xt_zret C dX3_fits_89 (by decide) ⟨by decide, by decide⟩ (by first | exact xt_q1 (Or.inl c70) | exact xt_q1 (Or.inr c81) | exact xt_q0 (by rintro (h | h); exact c70 h; exact c81 h))
      · refine xt_iconst (v := nI 1) C dX3_fits_84 rfl ?_
        refine xt_goto (tgt := 89) C dX3_fits_85 (by decide) ?_
        exact xt_zret C dX3_fits_89 (by decide) ⟨by decide, by decide⟩ (by first | exact xt_q1 (Or.inl c70) | exact xt_q1 (Or.inr c81) | exact xt_q0 (by rintro (h | h); exact c70 h; exact c81 h))
end XC20
