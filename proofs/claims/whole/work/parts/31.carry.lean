/-! THE SCRIPT: what speaks against an item; to carry it out -/
section XC23
variable {E : xt_Ev} {l : Launch} {S : xt_St}
noncomputable def xt_why (a : Nat → Int32) (n b c r : Nat) : Int32 :=
  @ite _ (xt_so (xt_sg a n b) < 0) (Classical.propDecidable _)
    (@ite _ (¬ xt_pix c r (xt_sg a n (b + 1) - nI 97) (xt_sg a n (b + 2) - nI 65)) (Classical.propDecidable _) (nI 1) (@ite _ (¬ xt_pix c r (xt_sg a n (b + 3) - nI 97) (xt_sg a n (b + 4) - nI 65)) (Classical.propDecidable _) (nI 1) (@ite _ (xt_sg a n (b + 3) - nI 97 < xt_sg a n (b + 1) - nI 97) (Classical.propDecidable _) (nI 2) (@ite _ (xt_sg a n (b + 2) - nI 65 ≤ xt_sg a n (b + 4) - nI 65) (Classical.propDecidable _) (-1) (nI 2)))))
    (@ite _ (xt_set (xt_so (xt_sg a n b)) (xt_hx (xt_sg a n (b + 1)))) (Classical.propDecidable _) (-1) (nI 3))
set_option maxRecDepth 20000 in
set_option maxHeartbeats 2000000 in
theorem ct_reasonAgainst {c r sd lv bo : Nat} (hP : xt_Pic S 1 c r sd lv bo) {n b it : Nat} (hn9 : S.1 46 1 = nI n) (h60 : n ≤ 60) (hb9 : S.2.1 48 it = nI b) (h20 : it < 20) (hb1 : b < 1000) (hx : xt_sg (S.2.1 47) n b = nI 98 ∨ xt_sg (S.2.1 47) n b = nI 108 ∨ xt_sg (S.2.1 47) n b = nI 109 ∨ xt_sg (S.2.1 47) n b = nI 114 ∨ xt_sg (S.2.1 47) n b = nI 116 ∨ xt_sg (S.2.1 47) n b = nI 117) {R : Int32} (hR : xt_why (S.2.1 47) n b c r = R) : xt_Ct E l yX3_reasonAgainst cX3_reasonAgainst 9 (some Jvm.ClassFile.FieldType.int) 2 44 0 0 [.ref (E.1 46), .int (nI it), .ref (E.1 1)] S (xt_Eq (some (.int R)) S) := by
  refine xt_body (by decide +kernel) (xt_all rfl) (Nat.le_of_ble_eq_true rfl) (fun cx C hl9 => ?_)
  show xt_X E cx _ 0 0 0 [some (.ref (E.1 46)), some (.int (nI it)), some (.ref (E.1 1)), none, none, none, none, none, none] [] S
  unfold xt_why at hR
  refine xt_aload_n C dX3_reasonAgainst_0 rfl ?_
  refine xt_get (f := 2) C xt_u3 rfl (by decide) (xt_cl46 _ _) (by decide) lkX3_19 rfl dX3_reasonAgainst_1 ?_
  refine xt_iload_n C dX3_reasonAgainst_4 rfl ?_
  refine xt_cSN C ms_X5_at lkX3_71 (ct_at (by decide) (xt_cl48 _) (by decide) h20 hb9) rfl (by decide) rfl (Nat.le_of_ble_eq_true rfl) dX3_reasonAgainst_5 ?_
  refine xt_istore_n (lo' := [_, _, _, _, _, _, _, _, _]) C dX3_reasonAgainst_8 (Nat.le_of_ble_eq_true rfl) rfl rfl ?_
  refine xt_aload_n C dX3_reasonAgainst_9 rfl ?_
  refine xt_iload_n C dX3_reasonAgainst_10 rfl ?_
  refine xt_cV C mv_X3_signAt lkX3_30 (ct_signAt hn9 h60 (by omega)) rfl (by decide) (xt_cl46 _ _) rfl (by decide) rfl (Nat.le_of_ble_eq_true rfl) dX3_reasonAgainst_11 ?_
  refine xt_cS C ms_X3_settingOf lkX3_75 (ct_settingOf hx) rfl (by decide) rfl (Nat.le_of_ble_eq_true rfl) dX3_reasonAgainst_14 ?_
  refine xt_istore (lo' := [_, _, _, _, _, _, _, _, _]) C dX3_reasonAgainst_17 (Nat.le_of_ble_eq_true rfl) rfl rfl ?_
  refine xt_iload C dX3_reasonAgainst_19 rfl ?_
  refine xt_if_lt (tgt := 45) C dX3_reasonAgainst_21 (by decide) (fun c21 => ?_) (fun c21 => ?_)
  · rw [if_pos c21] at hR
    refine xt_aload_n C dX3_reasonAgainst_45 rfl ?_
    refine xt_iload_n C dX3_reasonAgainst_46 rfl ?_
    refine xt_iconst (v := nI 1) C dX3_reasonAgainst_47 rfl ?_
    refine xt_iaddN C dX3_reasonAgainst_48 ?_
    refine xt_cV C mv_X3_columnAt lkX3_85 (ct_columnAt hn9 h60 (by omega)) rfl (by decide) (xt_cl46 _ _) rfl (by decide) rfl (Nat.le_of_ble_eq_true rfl) dX3_reasonAgainst_49 ?_
    refine xt_istore (lo' := [_, _, _, _, _, _, _, _, _]) C dX3_reasonAgainst_52 (Nat.le_of_ble_eq_true rfl) rfl rfl ?_
    refine xt_aload_n C dX3_reasonAgainst_54 rfl ?_
    refine xt_iload_n C dX3_reasonAgainst_55 rfl ?_
    refine xt_iconst (v := nI 2) C dX3_reasonAgainst_56 rfl ?_
    refine xt_iaddN C dX3_reasonAgainst_57 ?_
    refine xt_cV C mv_X3_rowAt lkX3_88 (ct_rowAt hn9 h60 (by omega)) rfl (by decide) (xt_cl46 _ _) rfl (by decide) rfl (Nat.le_of_ble_eq_true rfl) dX3_reasonAgainst_58 ?_
    refine xt_istore (lo' := [_, _, _, _, _, _, _, _, _]) C dX3_reasonAgainst_61 (Nat.le_of_ble_eq_true rfl) rfl rfl ?_
    refine xt_aload_n C dX3_reasonAgainst_63 rfl ?_
    refine xt_iload_n C dX3_reasonAgainst_64 rfl ?_
    refine xt_iconst (v := nI 3) C dX3_reasonAgainst_65 rfl ?_
    refine xt_iaddN C dX3_reasonAgainst_66 ?_
    refine xt_cV C mv_X3_columnAt lkX3_85 (ct_columnAt hn9 h60 (by omega)) rfl (by decide) (xt_cl46 _ _) rfl (by decide) rfl (Nat.le_of_ble_eq_true rfl) dX3_reasonAgainst_67 ?_
    refine xt_istore (lo' := [_, _, _, _, _, _, _, _, _]) C dX3_reasonAgainst_70 (Nat.le_of_ble_eq_true rfl) rfl rfl ?_
    refine xt_aload_n C dX3_reasonAgainst_72 rfl ?_
    refine xt_iload_n C dX3_reasonAgainst_73 rfl ?_
    refine xt_iconst (v := nI 4) C dX3_reasonAgainst_74 rfl ?_
    refine xt_iaddN C dX3_reasonAgainst_75 ?_
    refine xt_cV C mv_X3_rowAt lkX3_88 (ct_rowAt hn9 h60 (by omega)) rfl (by decide) (xt_cl46 _ _) rfl (by decide) rfl (Nat.le_of_ble_eq_true rfl) dX3_reasonAgainst_76 ?_
    refine xt_istore (lo' := [_, _, _, _, _, _, _, _, _]) C dX3_reasonAgainst_79 (Nat.le_of_ble_eq_true rfl) rfl rfl ?_
    refine xt_aload_n C dX3_reasonAgainst_81 rfl ?_
    refine xt_iload C dX3_reasonAgainst_82 rfl ?_
    refine xt_iload C dX3_reasonAgainst_84 rfl ?_
    refine xt_cVN C mv_X1_has lkX3_91 (ct_has hP) rfl (by decide) (xt_cl1 _ _) rfl (by decide) rfl (Nat.le_of_ble_eq_true rfl) dX3_reasonAgainst_86 ?_
    refine xt_if_eqB (tgt := 103) C dX3_reasonAgainst_89 (by decide) (fun c89 => ?_) (fun c89 => ?_)
    · rw [if_pos c89] at hR
      subst hR
      refine xt_iconst (v := nI 1) C dX3_reasonAgainst_103 rfl ?_
      exact xt_iret C dX3_reasonAgainst_104 ⟨by decide, by decide⟩ ⟨rfl, rfl⟩
    · rw [if_neg (fun z => z c89)] at hR
      refine xt_aload_n C dX3_reasonAgainst_92 rfl ?_
      refine xt_iload C dX3_reasonAgainst_93 rfl ?_
      refine xt_iload C dX3_reasonAgainst_95 rfl ?_
      refine xt_cVN C mv_X1_has lkX3_91 (ct_has hP) rfl (by decide) (xt_cl1 _ _) rfl (by decide) rfl (Nat.le_of_ble_eq_true rfl) dX3_reasonAgainst_97 ?_
      refine xt_if_neB (tgt := 105) C dX3_reasonAgainst_100 (by decide) (fun c100 => ?_) (fun c100 => ?_)
      · rw [if_neg (fun z => z c100)] at hR
        refine xt_iload C dX3_reasonAgainst_105 rfl ?_
        refine xt_iload C dX3_reasonAgainst_107 rfl ?_
        refine xt_icmp_gt (tgt := 119) C dX3_reasonAgainst_109 (by decide) (fun c109 => ?_) (fun c109 => ?_)
        · rw [if_pos c109] at hR
          subst hR
          refine xt_iconst (v := nI 2) C dX3_reasonAgainst_119 rfl ?_
          refine xt_goto (tgt := 124) C dX3_reasonAgainst_120 (by decide) ?_
          exact xt_iret C dX3_reasonAgainst_124 ⟨by decide, by decide⟩ ⟨rfl, rfl⟩
        · rw [if_neg c109] at hR
          refine xt_iload C dX3_reasonAgainst_112 rfl ?_
          refine xt_iload C dX3_reasonAgainst_114 rfl ?_
          refine xt_icmp_le (tgt := 123) C dX3_reasonAgainst_116 (by decide) (fun c116 => ?_) (fun c116 => ?_)
          · rw [if_pos c116] at hR
            subst hR
            refine xt_iconst (v := -1) C dX3_reasonAgainst_123 rfl ?_
            exact xt_iret C dX3_reasonAgainst_124 ⟨by decide, by decide⟩ ⟨rfl, rfl⟩
          · rw [if_neg c116] at hR
            subst hR
            refine xt_iconst (v := nI 2) C dX3_reasonAgainst_119 rfl ?_
            refine xt_goto (tgt := 124) C dX3_reasonAgainst_120 (by decide) ?_
            exact xt_iret C dX3_reasonAgainst_124 ⟨by decide, by decide⟩ ⟨rfl, rfl⟩
      · rw [if_pos c100] at hR
        subst hR
        refine xt_iconst (v := nI 1) C dX3_reasonAgainst_103 rfl ?_
        exact xt_iret C dX3_reasonAgainst_104 ⟨by decide, by decide⟩ ⟨rfl, rfl⟩
  · rw [if_neg c21] at hR
    refine xt_iload C dX3_reasonAgainst_24 rfl ?_
    refine xt_aload_n C dX3_reasonAgainst_26 rfl ?_
    refine xt_iload_n C dX3_reasonAgainst_27 rfl ?_
    refine xt_iconst (v := nI 1) C dX3_reasonAgainst_28 rfl ?_
    refine xt_iaddN C dX3_reasonAgainst_29 ?_
    refine xt_cV C mv_X3_hexAt lkX3_78 (ct_hexAt hn9 h60 (by omega)) rfl (by decide) (xt_cl46 _ _) rfl (by decide) rfl (Nat.le_of_ble_eq_true rfl) dX3_reasonAgainst_30 ?_
    refine xt_cSN C ms_X5_isSettable lkX3_81 ct_isSettable rfl (by decide) rfl (Nat.le_of_ble_eq_true rfl) dX3_reasonAgainst_33 ?_
    refine xt_if_eqB (tgt := 43) C dX3_reasonAgainst_36 (by decide) (fun c36 => ?_) (fun c36 => ?_)
    · rw [if_neg c36] at hR
      subst hR
      refine xt_iconst (v := nI 3) C dX3_reasonAgainst_43 rfl ?_
      exact xt_iret C dX3_reasonAgainst_44 ⟨by decide, by decide⟩ ⟨rfl, rfl⟩
    · rw [if_pos c36] at hR
      subst hR
      refine xt_iconst (v := -1) C dX3_reasonAgainst_39 rfl ?_
      refine xt_goto (tgt := 44) C dX3_reasonAgainst_40 (by decide) ?_
      exact xt_iret C dX3_reasonAgainst_44 ⟨by decide, by decide⟩ ⟨rfl, rfl⟩
set_option maxRecDepth 20000 in
set_option maxHeartbeats 2000000 in
theorem ct_carrySet {n b it : Nat} (hn9 : S.1 46 1 = nI n) (h60 : n ≤ 60) (hb9 : S.2.1 48 it = nI b) (h20 : it < 20) (hb1 : b < 1000) (hx : xt_sg (S.2.1 47) n b = nI 98 ∨ xt_sg (S.2.1 47) n b = nI 108 ∨ xt_sg (S.2.1 47) n b = nI 109 ∨ xt_sg (S.2.1 47) n b = nI 114 ∨ xt_sg (S.2.1 47) n b = nI 116 ∨ xt_sg (S.2.1 47) n b = nI 117) {j : Nat} (hj : xt_so (xt_sg (S.2.1 47) n b) = nI j) (hj3 : j < 3) : xt_Ct E l yX3_carryOut cX3_carryOut 11 none 2 52 0 0 [.ref (E.1 46), .int (nI it), .ref (E.1 1)] S (xt_Eq none (xt_sN S 1 (2 + j) (xt_hx (xt_sg (S.2.1 47) n (b + 1))))) := by
  refine xt_body (by decide +kernel) (xt_all rfl) (Nat.le_of_ble_eq_true rfl) (fun cx C hl9 => ?_)
  show xt_X E cx _ 0 0 0 [some (.ref (E.1 46)), some (.int (nI it)), some (.ref (E.1 1)), none, none, none, none, none, none, none, none] [] S
  refine xt_aload_n C dX3_carryOut_0 rfl ?_
  refine xt_get (f := 2) C xt_u3 rfl (by decide) (xt_cl46 _ _) (by decide) lkX3_19 rfl dX3_carryOut_1 ?_
  refine xt_iload_n C dX3_carryOut_4 rfl ?_
  refine xt_cSN C ms_X5_at lkX3_71 (ct_at (by decide) (xt_cl48 _) (by decide) h20 hb9) rfl (by decide) rfl (Nat.le_of_ble_eq_true rfl) dX3_carryOut_5 ?_
  refine xt_istore_n (lo' := [_, _, _, _, _, _, _, _, _, _, _]) C dX3_carryOut_8 (Nat.le_of_ble_eq_true rfl) rfl rfl ?_
  refine xt_aload_n C dX3_carryOut_9 rfl ?_
  refine xt_iload_n C dX3_carryOut_10 rfl ?_
  refine xt_cV C mv_X3_signAt lkX3_30 (ct_signAt hn9 h60 (by omega)) rfl (by decide) (xt_cl46 _ _) rfl (by decide) rfl (Nat.le_of_ble_eq_true rfl) dX3_carryOut_11 ?_
  refine xt_istore (lo' := [_, _, _, _, _, _, _, _, _, _, _]) C dX3_carryOut_14 (Nat.le_of_ble_eq_true rfl) rfl rfl ?_
  refine xt_iload C dX3_carryOut_16 rfl ?_
  refine xt_cS C ms_X3_settingOf lkX3_75 (ct_settingOf hx) rfl (by decide) rfl (Nat.le_of_ble_eq_true rfl) dX3_carryOut_18 ?_
  rw [hj]
  refine xt_istore (lo' := [_, _, _, _, _, _, _, _, _, _, _]) C dX3_carryOut_21 (Nat.le_of_ble_eq_true rfl) rfl rfl ?_
  refine xt_iload C dX3_carryOut_23 rfl ?_
  refine xt_if_ltN (tgt := 42) C dX3_carryOut_25 (by decide) (by omega) ?_
  refine xt_aload_n C dX3_carryOut_28 rfl ?_
  refine xt_iload C dX3_carryOut_29 rfl ?_
  refine xt_aload_n C dX3_carryOut_31 rfl ?_
  refine xt_iload_n C dX3_carryOut_32 rfl ?_
  refine xt_iconst (v := nI 1) C dX3_carryOut_33 rfl ?_
  refine xt_iaddN C dX3_carryOut_34 ?_
  refine xt_cV C mv_X3_hexAt lkX3_78 (ct_hexAt hn9 h60 (by omega)) rfl (by decide) (xt_cl46 _ _) rfl (by decide) rfl (Nat.le_of_ble_eq_true rfl) dX3_carryOut_35 ?_
  refine xt_cVNn C mv_X1_choose lkX3_96 (ct_choose hj3) rfl (by decide) (xt_cl1 _ _) rfl (by decide) rfl (Nat.le_of_ble_eq_true rfl) dX3_carryOut_38 ?_
  exact xt_vret C dX3_carryOut_41 ⟨by decide, by decide⟩ ⟨rfl, rfl⟩
set_option maxRecDepth 20000 in
set_option maxHeartbeats 2000000 in
theorem ct_carryPaint {c r sd lv bo : Nat} (hP : xt_Pic S 1 c r sd lv bo) {n b it : Nat} (hn9 : S.1 46 1 = nI n) (h60 : n ≤ 60) (hb9 : S.2.1 48 it = nI b) (h20 : it < 20) (hb1 : b < 1000) (hx : xt_sg (S.2.1 47) n b = nI 98 ∨ xt_sg (S.2.1 47) n b = nI 108 ∨ xt_sg (S.2.1 47) n b = nI 109 ∨ xt_sg (S.2.1 47) n b = nI 114 ∨ xt_sg (S.2.1 47) n b = nI 116 ∨ xt_sg (S.2.1 47) n b = nI 117) {lf tp w h : Nat} (hw : lf + w ≤ c) (hh : tp + h ≤ r) (hw0 : 0 < w) (hh0 : 0 < h) (e1 : xt_sg (S.2.1 47) n (b + 1) - nI 97 = nI lf) (e2 : xt_sg (S.2.1 47) n (b + 2) - nI 65 = nI tp) (e3 : xt_sg (S.2.1 47) n (b + 3) - nI 97 = nI (lf + w - 1)) (e4 : xt_sg (S.2.1 47) n (b + 4) - nI 65 = nI (tp + h - 1)) (hso : xt_so (xt_sg (S.2.1 47) n b) < 0) (hk : xt_sg (S.2.1 47) n b = nI 114) : xt_Ct E l yX3_carryOut cX3_carryOut 11 none 2 52 0 0 [.ref (E.1 46), .int (nI it), .ref (E.1 1)] S (xt_Eq none (xt_sA S 2 (xt_paint c lf tp w h (nI 16 * xt_hx (xt_sg (S.2.1 47) n (b + 6)) + xt_hx (xt_sg (S.2.1 47) n (b + 7))) (S.2.1 2)).1)) := by
  refine xt_body (by decide +kernel) (xt_all rfl) (Nat.le_of_ble_eq_true rfl) (fun cx C hl9 => ?_)
  show xt_X E cx _ 0 0 0 [some (.ref (E.1 46)), some (.int (nI it)), some (.ref (E.1 1)), none, none, none, none, none, none, none, none] [] S
  refine xt_aload_n C dX3_carryOut_0 rfl ?_
  refine xt_get (f := 2) C xt_u3 rfl (by decide) (xt_cl46 _ _) (by decide) lkX3_19 rfl dX3_carryOut_1 ?_
  refine xt_iload_n C dX3_carryOut_4 rfl ?_
  refine xt_cSN C ms_X5_at lkX3_71 (ct_at (by decide) (xt_cl48 _) (by decide) h20 hb9) rfl (by decide) rfl (Nat.le_of_ble_eq_true rfl) dX3_carryOut_5 ?_
  refine xt_istore_n (lo' := [_, _, _, _, _, _, _, _, _, _, _]) C dX3_carryOut_8 (Nat.le_of_ble_eq_true rfl) rfl rfl ?_
  refine xt_aload_n C dX3_carryOut_9 rfl ?_
  refine xt_iload_n C dX3_carryOut_10 rfl ?_
  refine xt_cV C mv_X3_signAt lkX3_30 (ct_signAt hn9 h60 (by omega)) rfl (by decide) (xt_cl46 _ _) rfl (by decide) rfl (Nat.le_of_ble_eq_true rfl) dX3_carryOut_11 ?_
  refine xt_istore (lo' := [_, _, _, _, _, _, _, _, _, _, _]) C dX3_carryOut_14 (Nat.le_of_ble_eq_true rfl) rfl rfl ?_
  refine xt_iload C dX3_carryOut_16 rfl ?_
  refine xt_cS C ms_X3_settingOf lkX3_75 (ct_settingOf hx) rfl (by decide) rfl (Nat.le_of_ble_eq_true rfl) dX3_carryOut_18 ?_
  refine xt_istore (lo' := [_, _, _, _, _, _, _, _, _, _, _]) C dX3_carryOut_21 (Nat.le_of_ble_eq_true rfl) rfl rfl ?_
  refine xt_iload C dX3_carryOut_23 rfl ?_
  refine xt_if_lt (tgt := 42) C dX3_carryOut_25 (by decide) (fun c25 => ?_) (fun c25 => ?_)
  · refine xt_aload_n C dX3_carryOut_42 rfl ?_
    refine xt_iload_n C dX3_carryOut_43 rfl ?_
    refine xt_iconst (v := nI 1) C dX3_carryOut_44 rfl ?_
    refine xt_iaddN C dX3_carryOut_45 ?_
    refine xt_cV C mv_X3_columnAt lkX3_85 (ct_columnAt hn9 h60 (by omega)) rfl (by decide) (xt_cl46 _ _) rfl (by decide) rfl (Nat.le_of_ble_eq_true rfl) dX3_carryOut_46 ?_
    rw [e1]
    refine xt_istore (lo' := [_, _, _, _, _, _, _, _, _, _, _]) C dX3_carryOut_49 (Nat.le_of_ble_eq_true rfl) rfl rfl ?_
    refine xt_aload_n C dX3_carryOut_51 rfl ?_
    refine xt_iload_n C dX3_carryOut_52 rfl ?_
    refine xt_iconst (v := nI 2) C dX3_carryOut_53 rfl ?_
    refine xt_iaddN C dX3_carryOut_54 ?_
    refine xt_cV C mv_X3_rowAt lkX3_88 (ct_rowAt hn9 h60 (by omega)) rfl (by decide) (xt_cl46 _ _) rfl (by decide) rfl (Nat.le_of_ble_eq_true rfl) dX3_carryOut_55 ?_
    rw [e2]
    refine xt_istore (lo' := [_, _, _, _, _, _, _, _, _, _, _]) C dX3_carryOut_58 (Nat.le_of_ble_eq_true rfl) rfl rfl ?_
    refine xt_aload_n C dX3_carryOut_60 rfl ?_
    refine xt_iload_n C dX3_carryOut_61 rfl ?_
    refine xt_iconst (v := nI 3) C dX3_carryOut_62 rfl ?_
    refine xt_iaddN C dX3_carryOut_63 ?_
    refine xt_cV C mv_X3_columnAt lkX3_85 (ct_columnAt hn9 h60 (by omega)) rfl (by decide) (xt_cl46 _ _) rfl (by decide) rfl (Nat.le_of_ble_eq_true rfl) dX3_carryOut_64 ?_
    rw [e3]
    refine xt_istore (lo' := [_, _, _, _, _, _, _, _, _, _, _]) C dX3_carryOut_67 (Nat.le_of_ble_eq_true rfl) rfl rfl ?_
    refine xt_aload_n C dX3_carryOut_69 rfl ?_
    refine xt_iload_n C dX3_carryOut_70 rfl ?_
    refine xt_iconst (v := nI 4) C dX3_carryOut_71 rfl ?_
    refine xt_iaddN C dX3_carryOut_72 ?_
    refine xt_cV C mv_X3_rowAt lkX3_88 (ct_rowAt hn9 h60 (by omega)) rfl (by decide) (xt_cl46 _ _) rfl (by decide) rfl (Nat.le_of_ble_eq_true rfl) dX3_carryOut_73 ?_
    rw [e4]
    refine xt_istore (lo' := [_, _, _, _, _, _, _, _, _, _, _]) C dX3_carryOut_76 (Nat.le_of_ble_eq_true rfl) rfl rfl ?_
    refine xt_iload C dX3_carryOut_78 rfl ?_
    refine xt_bipush (v := nI 114) C dX3_carryOut_80 (by decide) ?_
    refine xt_icmp_ne (tgt := 129) C dX3_carryOut_82 (by decide) (fun c82 => ?_) (fun c82 => ?_)
    · exact absurd hk c82
    · refine xt_bipush (v := nI 16) C dX3_carryOut_85 (by decide) ?_
      refine xt_aload_n C dX3_carryOut_87 rfl ?_
      refine xt_iload_n C dX3_carryOut_88 rfl ?_
      refine xt_bipush (v := nI 6) C dX3_carryOut_89 (by decide) ?_
      refine xt_iaddN C dX3_carryOut_91 ?_
      refine xt_cV C mv_X3_hexAt lkX3_78 (ct_hexAt hn9 h60 (by omega)) rfl (by decide) (xt_cl46 _ _) rfl (by decide) rfl (Nat.le_of_ble_eq_true rfl) dX3_carryOut_92 ?_
      refine xt_imul C dX3_carryOut_95 ?_
      refine xt_aload_n C dX3_carryOut_96 rfl ?_
      refine xt_iload_n C dX3_carryOut_97 rfl ?_
      refine xt_bipush (v := nI 7) C dX3_carryOut_98 (by decide) ?_
      refine xt_iaddN C dX3_carryOut_100 ?_
      refine xt_cV C mv_X3_hexAt lkX3_78 (ct_hexAt hn9 h60 (by omega)) rfl (by decide) (xt_cl46 _ _) rfl (by decide) rfl (Nat.le_of_ble_eq_true rfl) dX3_carryOut_101 ?_
      refine xt_iadd C dX3_carryOut_104 ?_
      refine xt_istore (lo' := [_, _, _, _, _, _, _, _, _, _, _]) C dX3_carryOut_105 (Nat.le_of_ble_eq_true rfl) rfl rfl ?_
      refine xt_aload_n C dX3_carryOut_107 rfl ?_
      refine xt_aload_n C dX3_carryOut_108 rfl ?_
      refine xt_getN (f := 5) C xt_u1 rfl (by decide) (xt_cl1 _ _) (by decide) lkX3_100 rfl dX3_carryOut_109 ?_
      refine xt_iload C dX3_carryOut_112 rfl ?_
      refine xt_iload C dX3_carryOut_114 rfl ?_
      refine xt_iload C dX3_carryOut_116 rfl ?_
      refine xt_iload C dX3_carryOut_118 rfl ?_
      refine xt_iload C dX3_carryOut_120 rfl ?_
      refine xt_cVN C mv_X1_paint lkX3_103 (ct_paint hP (by decide) (xt_cl2 _) hw hh hw0 hh0) rfl (by decide) (xt_cl1 _ _) rfl (by decide) rfl (Nat.le_of_ble_eq_true rfl) dX3_carryOut_122 ?_
      refine xt_pop C dX3_carryOut_125 rfl ?_
      refine xt_goto (tgt := 158) C dX3_carryOut_126 (by decide) ?_
      exact xt_vret C dX3_carryOut_158 ⟨by decide, by decide⟩ ⟨rfl, rfl⟩
  · exact absurd hso c25
set_option maxRecDepth 20000 in
set_option maxHeartbeats 2000000 in
theorem ct_carryMask {c r sd lv bo : Nat} (hP : xt_Pic S 1 c r sd lv bo) {n b it : Nat} (hn9 : S.1 46 1 = nI n) (h60 : n ≤ 60) (hb9 : S.2.1 48 it = nI b) (h20 : it < 20) (hb1 : b < 1000) (hx : xt_sg (S.2.1 47) n b = nI 98 ∨ xt_sg (S.2.1 47) n b = nI 108 ∨ xt_sg (S.2.1 47) n b = nI 109 ∨ xt_sg (S.2.1 47) n b = nI 114 ∨ xt_sg (S.2.1 47) n b = nI 116 ∨ xt_sg (S.2.1 47) n b = nI 117) {lf tp w h : Nat} (hw : lf + w ≤ c) (hh : tp + h ≤ r) (hw0 : 0 < w) (hh0 : 0 < h) (e1 : xt_sg (S.2.1 47) n (b + 1) - nI 97 = nI lf) (e2 : xt_sg (S.2.1 47) n (b + 2) - nI 65 = nI tp) (e3 : xt_sg (S.2.1 47) n (b + 3) - nI 97 = nI (lf + w - 1)) (e4 : xt_sg (S.2.1 47) n (b + 4) - nI 65 = nI (tp + h - 1)) (hso : xt_so (xt_sg (S.2.1 47) n b) < 0) (hk : ¬ xt_sg (S.2.1 47) n b = nI 114) : xt_Ct E l yX3_carryOut cX3_carryOut 11 none 2 52 0 0 [.ref (E.1 46), .int (nI it), .ref (E.1 1)] S (xt_Eq none (xt_sA S 3 (xt_paint c lf tp w h (if xt_sg (S.2.1 47) n b = nI 109 then nI 1 else nI 0) (S.2.1 3)).1)) := by
  refine xt_body (by decide +kernel) (xt_all rfl) (Nat.le_of_ble_eq_true rfl) (fun cx C hl9 => ?_)
  show xt_X E cx _ 0 0 0 [some (.ref (E.1 46)), some (.int (nI it)), some (.ref (E.1 1)), none, none, none, none, none, none, none, none] [] S
  refine xt_aload_n C dX3_carryOut_0 rfl ?_
  refine xt_get (f := 2) C xt_u3 rfl (by decide) (xt_cl46 _ _) (by decide) lkX3_19 rfl dX3_carryOut_1 ?_
  refine xt_iload_n C dX3_carryOut_4 rfl ?_
  refine xt_cSN C ms_X5_at lkX3_71 (ct_at (by decide) (xt_cl48 _) (by decide) h20 hb9) rfl (by decide) rfl (Nat.le_of_ble_eq_true rfl) dX3_carryOut_5 ?_
  refine xt_istore_n (lo' := [_, _, _, _, _, _, _, _, _, _, _]) C dX3_carryOut_8 (Nat.le_of_ble_eq_true rfl) rfl rfl ?_
  refine xt_aload_n C dX3_carryOut_9 rfl ?_
  refine xt_iload_n C dX3_carryOut_10 rfl ?_
  refine xt_cV C mv_X3_signAt lkX3_30 (ct_signAt hn9 h60 (by omega)) rfl (by decide) (xt_cl46 _ _) rfl (by decide) rfl (Nat.le_of_ble_eq_true rfl) dX3_carryOut_11 ?_
  refine xt_istore (lo' := [_, _, _, _, _, _, _, _, _, _, _]) C dX3_carryOut_14 (Nat.le_of_ble_eq_true rfl) rfl rfl ?_
  refine xt_iload C dX3_carryOut_16 rfl ?_
  refine xt_cS C ms_X3_settingOf lkX3_75 (ct_settingOf hx) rfl (by decide) rfl (Nat.le_of_ble_eq_true rfl) dX3_carryOut_18 ?_
  refine xt_istore (lo' := [_, _, _, _, _, _, _, _, _, _, _]) C dX3_carryOut_21 (Nat.le_of_ble_eq_true rfl) rfl rfl ?_
  refine xt_iload C dX3_carryOut_23 rfl ?_
  refine xt_if_lt (tgt := 42) C dX3_carryOut_25 (by decide) (fun c25 => ?_) (fun c25 => ?_)
  · refine xt_aload_n C dX3_carryOut_42 rfl ?_
    refine xt_iload_n C dX3_carryOut_43 rfl ?_
    refine xt_iconst (v := nI 1) C dX3_carryOut_44 rfl ?_
    refine xt_iaddN C dX3_carryOut_45 ?_
    refine xt_cV C mv_X3_columnAt lkX3_85 (ct_columnAt hn9 h60 (by omega)) rfl (by decide) (xt_cl46 _ _) rfl (by decide) rfl (Nat.le_of_ble_eq_true rfl) dX3_carryOut_46 ?_
    rw [e1]
    refine xt_istore (lo' := [_, _, _, _, _, _, _, _, _, _, _]) C dX3_carryOut_49 (Nat.le_of_ble_eq_true rfl) rfl rfl ?_
    refine xt_aload_n C dX3_carryOut_51 rfl ?_
    refine xt_iload_n C dX3_carryOut_52 rfl ?_
    refine xt_iconst (v := nI 2) C dX3_carryOut_53 rfl ?_
    refine xt_iaddN C dX3_carryOut_54 ?_
    refine xt_cV C mv_X3_rowAt lkX3_88 (ct_rowAt hn9 h60 (by omega)) rfl (by decide) (xt_cl46 _ _) rfl (by decide) rfl (Nat.le_of_ble_eq_true rfl) dX3_carryOut_55 ?_
    rw [e2]
    refine xt_istore (lo' := [_, _, _, _, _, _, _, _, _, _, _]) C dX3_carryOut_58 (Nat.le_of_ble_eq_true rfl) rfl rfl ?_
    refine xt_aload_n C dX3_carryOut_60 rfl ?_
    refine xt_iload_n C dX3_carryOut_61 rfl ?_
    refine xt_iconst (v := nI 3) C dX3_carryOut_62 rfl ?_
    refine xt_iaddN C dX3_carryOut_63 ?_
    refine xt_cV C mv_X3_columnAt lkX3_85 (ct_columnAt hn9 h60 (by omega)) rfl (by decide) (xt_cl46 _ _) rfl (by decide) rfl (Nat.le_of_ble_eq_true rfl) dX3_carryOut_64 ?_
    rw [e3]
    refine xt_istore (lo' := [_, _, _, _, _, _, _, _, _, _, _]) C dX3_carryOut_67 (Nat.le_of_ble_eq_true rfl) rfl rfl ?_
    refine xt_aload_n C dX3_carryOut_69 rfl ?_
    refine xt_iload_n C dX3_carryOut_70 rfl ?_
    refine xt_iconst (v := nI 4) C dX3_carryOut_71 rfl ?_
    refine xt_iaddN C dX3_carryOut_72 ?_
    refine xt_cV C mv_X3_rowAt lkX3_88 (ct_rowAt hn9 h60 (by omega)) rfl (by decide) (xt_cl46 _ _) rfl (by decide) rfl (Nat.le_of_ble_eq_true rfl) dX3_carryOut_73 ?_
    rw [e4]
    refine xt_istore (lo' := [_, _, _, _, _, _, _, _, _, _, _]) C dX3_carryOut_76 (Nat.le_of_ble_eq_true rfl) rfl rfl ?_
    refine xt_iload C dX3_carryOut_78 rfl ?_
    refine xt_bipush (v := nI 114) C dX3_carryOut_80 (by decide) ?_
    refine xt_icmp_ne (tgt := 129) C dX3_carryOut_82 (by decide) (fun c82 => ?_) (fun c82 => ?_)
    · refine xt_aload_n C dX3_carryOut_129 rfl ?_
      refine xt_aload_n C dX3_carryOut_130 rfl ?_
      refine xt_getN (f := 6) C xt_u1 rfl (by decide) (xt_cl1 _ _) (by decide) lkX3_107 rfl dX3_carryOut_131 ?_
      refine xt_iload C dX3_carryOut_134 rfl ?_
      refine xt_iload C dX3_carryOut_136 rfl ?_
      refine xt_iload C dX3_carryOut_138 rfl ?_
      refine xt_iload C dX3_carryOut_140 rfl ?_
      refine xt_iload C dX3_carryOut_142 rfl ?_
      refine xt_bipush (v := nI 109) C dX3_carryOut_144 (by decide) ?_
      refine xt_icmp_ne (tgt := 153) C dX3_carryOut_146 (by decide) (fun c146 => ?_) (fun c146 => ?_)
      · rw [if_neg c146]
        refine xt_iconst (v := nI 0) C dX3_carryOut_153 rfl ?_
        refine xt_cVN C mv_X1_paint lkX3_103 (ct_paint hP (by decide) (xt_cl3 _) hw hh hw0 hh0) rfl (by decide) (xt_cl1 _ _) rfl (by decide) rfl (Nat.le_of_ble_eq_true rfl) dX3_carryOut_154 ?_
        refine xt_pop C dX3_carryOut_157 rfl ?_
        exact xt_vret C dX3_carryOut_158 ⟨by decide, by decide⟩ ⟨rfl, rfl⟩
      · rw [if_pos c146]
        refine xt_iconst (v := nI 1) C dX3_carryOut_149 rfl ?_
        refine xt_goto (tgt := 154) C dX3_carryOut_150 (by decide) ?_
        refine xt_cVN C mv_X1_paint lkX3_103 (ct_paint hP (by decide) (xt_cl3 _) hw hh hw0 hh0) rfl (by decide) (xt_cl1 _ _) rfl (by decide) rfl (Nat.le_of_ble_eq_true rfl) dX3_carryOut_154 ?_
        refine xt_pop C dX3_carryOut_157 rfl ?_
        exact xt_vret C dX3_carryOut_158 ⟨by decide, by decide⟩ ⟨rfl, rfl⟩
    · exact absurd c82 hk
  · exact absurd hso c25
end XC23
