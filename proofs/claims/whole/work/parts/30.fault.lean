/-! THE SCRIPT: the whole text -/
section XC22
variable {E : xt_Ev} {l : Launch} {S : xt_St}
theorem xt_s2_v {S : xt_St} {i f : Nat} {v : Int32} : (xt_sN S i f v).1 i f = v := by simp [xt_sN]
theorem xt_s2_s {S : xt_St} {i f : Nat} {v w : Int32} : xt_sN (xt_sN S i f v) i f w = xt_sN S i f w := by
  unfold xt_sN
  congr 1
  funext a b
  by_cases h : a = i ∧ b = f
  · simp [h]
  · simp [h]
theorem xt_fz {q : Nat → Int32} {v x : Int32} {it : Nat} : xt_sA (xt_sN (xt_sA S 48 q) 46 3 v) 48 (if it < 20 then upd ((xt_sN (xt_sA S 48 q) 46 3 v).2.1 48) it x else (xt_sN (xt_sA S 48 q) 46 3 v).2.1 48) = xt_sN (xt_sA S 48 (if it < 20 then upd q it x else q)) 46 3 v := by
  have h : (xt_sN (xt_sA S 48 q) 46 3 v).2.1 48 = q := by
    show (xt_sA S 48 q).2.1 48 = q
    exact xt_sA_s
  rw [h]
  show xt_sN (xt_sA (xt_sA S 48 q) 48 _) 46 3 v = _
  rw [xt_sA_sA]
theorem ct_putS {it : Nat} (hit : it < 2 ^ 31) {x : Int32} : xt_Ct E l yX5_put cX5_put 3 none 0 0 0 0 [.ref (E.1 48), .int (nI it), .int x] S (xt_Eq none (xt_sA S 48 (if it < 20 then upd (S.2.1 48) it x else S.2.1 48))) := by
  by_cases h : it < 20
  · rw [if_pos h]; exact ct_put (by decide) (xt_cl48 _) (by decide) h
  · rw [if_neg h, xt_sA_self]; exact ct_put_out (by decide) (xt_cl48 _) (by decide) (by omega) hit
set_option maxRecDepth 20000 in
set_option maxHeartbeats 2000000 in
theorem ct_faultOffset {n : Nat} {R : Int32 × Nat × (Nat → Int32)} (hn9 : S.1 46 1 = nI n) (h60 : n ≤ 60) (hR0 : xt_fl (S.2.1 47) n 60 0 0 (S.2.1 48) = R) : xt_Ct E l yX3_faultOffset cX3_faultOffset 5 (some Jvm.ClassFile.FieldType.int) 6 129 0 0 [.ref (E.1 46)] S (xt_Eq (some (.int R.1)) (xt_sN (xt_sA S 48 R.2.2) 46 3 (nI R.2.1))) := by
  refine xt_body (by decide +kernel) (xt_all rfl) (Nat.le_of_ble_eq_true rfl) (fun cx C hl9 => ?_)
  show xt_X E cx _ 0 0 0 [some (.ref (E.1 46)), none, none, none, none] [] S
  have loop : ∀ (d it : Nat) (b : Nat) (q : Nat → Int32), it ≤ 60 → (xt_fl (S.2.1 47) n (60 - it) it b q = R) → (b ≤ 9 * it) → 60 + 1 ≤ it + d → xt_X E cx (xt_ZM E cx 0 0 (xt_Eq (some (.int R.1)) (xt_sN (xt_sA S 48 R.2.2) 46 3 (nI R.2.1)))) 0 0 9 [some (.ref (E.1 46)), some (.int (nI b)), some (.int (nI it)), none, none] [] (xt_sN (xt_sA S 48 q) 46 3 (nI it)) := by
    intro d
    induction d with
    | zero => intro it b q h0it hR ho h1it; exact absurd h1it (by omega)
    | succ d ih =>
      intro it b q h0it hR ho h1it
      refine xt_iload_n C dX3_faultOffset_9 rfl ?_
      refine xt_bipush (v := nI 60) C dX3_faultOffset_10 (by decide) ?_
      refine xt_icmp_geN (tgt := 110) C dX3_faultOffset_12 (by decide) (by omega) (by omega) (fun c12 => ?_) (fun c12 => ?_)
      · rw [show 60 - it = 0 by omega] at hR
        subst hR
        refine xt_iload_n C dX3_faultOffset_110 rfl ?_
        exact xt_iret C dX3_faultOffset_111 ⟨by decide, by decide⟩ ⟨rfl, rfl⟩
      · obtain ⟨f, hf⟩ : ∃ f, 60 - it = f + 1 := ⟨59 - it, by omega⟩
        rw [hf, xt_fl] at hR
        refine xt_aload_n C dX3_faultOffset_15 rfl ?_
        refine xt_get (f := 2) C xt_u3 rfl (by decide) (xt_cl46 _ _) (by decide) lkX3_19 rfl dX3_faultOffset_16 ?_
        refine xt_iload_n C dX3_faultOffset_19 rfl ?_
        refine xt_iload_n C dX3_faultOffset_20 rfl ?_
        refine xt_cSNn C ms_X5_put lkX3_26 (ct_putS (by omega)) rfl (by decide) rfl (Nat.le_of_ble_eq_true rfl) dX3_faultOffset_21 ?_
        rw [xt_fz]
        generalize hq9 : (if it < 20 then upd q it (nI b) else q) = q9 at hR
        have hA : ∀ i9 : Nat, (xt_sN (xt_sA S 48 q9) 46 3 (nI i9)).2.1 47 = S.2.1 47 := fun _ => rfl
        obtain ⟨m, hn⟩ : ∃ m, xt_tl.getD (xt_fo (xt_sg (S.2.1 47) n b)) 0 = m := ⟨_, rfl⟩
        rw [hn] at hR
        have hfb := xt_fo_b (x := xt_sg (S.2.1 47) n b)
        have hi : (xt_fo (xt_sg (S.2.1 47) n b)) < 31 := by omega
        have hm7 : m ≤ 7 ∧ (m = 0 ↔ (xt_fo (xt_sg (S.2.1 47) n b)) = 24) := by rw [← hn]; exact xt_tl7 hfb.1 hfb.2
        have hn31 : m < 2 ^ 31 := by omega
        refine xt_aload_n C dX3_faultOffset_24 rfl ?_
        refine xt_iload_n C dX3_faultOffset_25 rfl ?_
        refine xt_cV C mv_X3_signAt lkX3_30 (ct_signAt (by exact hn9) h60 (by omega)) rfl (by decide) (xt_cl46 _ _) rfl (by decide) rfl (Nat.le_of_ble_eq_true rfl) dX3_faultOffset_26 ?_
        rw [hA]
        refine xt_cS C ms_X3_formOf lkX3_34 ct_formOf rfl (by decide) rfl (Nat.le_of_ble_eq_true rfl) dX3_faultOffset_29 ?_
        refine xt_astore_n (lo' := [_, _, _, _, _]) C dX3_faultOffset_32 (Nat.le_of_ble_eq_true rfl) rfl rfl ?_
        refine xt_aload_n C dX3_faultOffset_33 rfl ?_
        refine xt_cT C mv_J0_isEmpty_aae02 lkX3_38 (ct_isEmpty hi hn hn31) rfl hi rfl (by decide) rfl (Nat.le_of_ble_eq_true rfl) dX3_faultOffset_34 ?_
        refine xt_if_eqB (tgt := 42) C dX3_faultOffset_37 (by decide) (fun c37 => ?_) (fun c37 => ?_)
        · have hne : ¬ (xt_fo (xt_sg (S.2.1 47) n b)) = 24 := fun z => c37 (hm7.2.mpr z)
          have h24 : (xt_fo (xt_sg (S.2.1 47) n b)) < 24 := by omega
          rw [if_neg hne] at hR
          have hg7 : (xt_fe (S.2.1 47) n (xt_fo (xt_sg (S.2.1 47) n b)) (b + 1)) ≤ 7 := Nat.le_trans xt_pre_le (by rw [hn]; exact hm7.1)
          refine xt_iload_n C dX3_faultOffset_42 rfl ?_
          refine xt_iconst (v := nI 1) C dX3_faultOffset_43 rfl ?_
          refine xt_iaddN C dX3_faultOffset_44 ?_
          refine xt_aload_n C dX3_faultOffset_45 rfl ?_
          refine xt_cT C mv_J0_length_8abf5 lkX3_44 (ct_length hi hn hn31) rfl hi rfl (by decide) rfl (Nat.le_of_ble_eq_true rfl) dX3_faultOffset_46 ?_
          refine xt_iaddN C dX3_faultOffset_49 ?_
          refine xt_istore (lo' := [_, _, _, _, _]) C dX3_faultOffset_50 (Nat.le_of_ble_eq_true rfl) rfl rfl ?_
          refine xt_aload_n C dX3_faultOffset_52 rfl ?_
          refine xt_aload_n C dX3_faultOffset_53 rfl ?_
          refine xt_iload_n C dX3_faultOffset_54 rfl ?_
          refine xt_iconst (v := nI 1) C dX3_faultOffset_55 rfl ?_
          refine xt_iaddN C dX3_faultOffset_56 ?_
          refine xt_cV C mv_X3_endOfFitting lkX3_47 (ct_eof hfb.1 h24 (by exact hn9) h60 (by omega)) rfl (by decide) (xt_cl46 _ _) rfl (by decide) rfl (Nat.le_of_ble_eq_true rfl) dX3_faultOffset_57 ?_
          rw [hA]
          generalize (xt_fe (S.2.1 47) n (xt_fo (xt_sg (S.2.1 47) n b)) (b + 1)) = g at hR hg7 ⊢
          refine xt_istore_n (lo' := [_, _, _, _, _]) C dX3_faultOffset_60 (Nat.le_of_ble_eq_true rfl) rfl rfl ?_
          refine xt_iload_n C dX3_faultOffset_61 rfl ?_
          refine xt_iload C dX3_faultOffset_62 rfl ?_
          refine xt_icmp_geN (tgt := 69) C dX3_faultOffset_64 (by decide) (by omega) (by omega) (fun c64 => ?_) (fun c64 => ?_)
          · rw [if_neg (by omega)] at hR
            refine xt_aload_n C dX3_faultOffset_69 rfl ?_
            refine xt_dup C dX3_faultOffset_70 rfl ?_
            refine xt_get (f := 3) C xt_u3 rfl (by decide) (xt_cl46 _ _) (by decide) lkX3_23 (xt_vI xt_s2_v) dX3_faultOffset_71 ?_
            refine xt_iconst (v := nI 1) C dX3_faultOffset_74 rfl ?_
            refine xt_iaddN C dX3_faultOffset_75 ?_
            refine xt_put (f := 3) C xt_u3 rfl (by decide) (xt_cl46 _ _) (by decide) tyX3 tyX3_ok nmX3 lkX3_23 rfl (tyX3_ok 3 (by decide)) rfl rfl (Nat.le_of_ble_eq_true rfl) rfl dX3_faultOffset_76 ?_
            rw [xt_s2_s]
            refine xt_iload_n C dX3_faultOffset_79 rfl ?_
            refine xt_aload_n C dX3_faultOffset_80 rfl ?_
            refine xt_get (f := 1) C xt_u3 rfl (by decide) (xt_cl46 _ _) (by decide) lkX3_15 (xt_vI (by exact hn9)) dX3_faultOffset_81 ?_
            refine xt_icmp_ltN (tgt := 89) C dX3_faultOffset_84 (by decide) (by omega) (by omega) (fun c84 => ?_) (fun c84 => ?_)
            · rw [if_neg (by omega)] at hR
              refine xt_aload_n C dX3_faultOffset_89 rfl ?_
              refine xt_iload_n C dX3_faultOffset_90 rfl ?_
              refine xt_cV C mv_X3_signAt lkX3_30 (ct_signAt (by exact hn9) h60 (by omega)) rfl (by decide) (xt_cl46 _ _) rfl (by decide) rfl (Nat.le_of_ble_eq_true rfl) dX3_faultOffset_91 ?_
              rw [hA]
              refine xt_bipush (v := nI 59) C dX3_faultOffset_94 (by decide) ?_
              refine xt_icmp_eq (tgt := 101) C dX3_faultOffset_96 (by decide) (fun c96 => ?_) (fun c96 => ?_)
              · rw [if_neg (fun z => z c96)] at hR
                refine xt_iincN (z := 1) (lo' := [_, _, _, _, _]) C dX3_faultOffset_101 rfl rfl rfl ?_
                refine xt_iincN (z := 1) (lo' := [_, _, _, _, _]) C dX3_faultOffset_104 rfl rfl rfl ?_
                refine xt_goto (tgt := 9) C dX3_faultOffset_107 (by decide) ?_
                exact xt_fg (by repeat' constructor) (ih (it + 1) (b + 1 + g + 1) q9 (by omega) (by rw [show 60 - (it + 1) = f by omega]; exact hR) (by omega) (by omega))
              · rw [if_pos c96] at hR
                subst hR
                refine xt_iload_n C dX3_faultOffset_99 rfl ?_
                exact xt_iret C dX3_faultOffset_100 ⟨by decide, by decide⟩ ⟨rfl, rfl⟩
            · rw [if_pos (by omega)] at hR
              subst hR
              refine xt_iconst (v := -1) C dX3_faultOffset_87 rfl ?_
              exact xt_iret C dX3_faultOffset_88 ⟨by decide, by decide⟩ ⟨rfl, rfl⟩
          · rw [if_pos (by omega)] at hR
            subst hR
            refine xt_iload_n C dX3_faultOffset_67 rfl ?_
            exact xt_iret C dX3_faultOffset_68 ⟨by decide, by decide⟩ ⟨rfl, rfl⟩
        · rw [if_pos (hm7.2.mp c37)] at hR
          subst hR
          refine xt_iload_n C dX3_faultOffset_40 rfl ?_
          exact xt_iret C dX3_faultOffset_41 ⟨by decide, by decide⟩ ⟨rfl, rfl⟩
  refine xt_aload_n C dX3_faultOffset_0 rfl ?_
  refine xt_iconst (v := nI 0) C dX3_faultOffset_1 rfl ?_
  refine xt_put (f := 3) C xt_u3 rfl (by decide) (xt_cl46 _ _) (by decide) tyX3 tyX3_ok nmX3 lkX3_23 rfl (tyX3_ok 3 (by decide)) rfl rfl (Nat.le_of_ble_eq_true rfl) rfl dX3_faultOffset_2 ?_
  refine xt_iconst (v := nI 0) C dX3_faultOffset_5 rfl ?_
  refine xt_istore_n (lo' := [_, _, _, _, _]) C dX3_faultOffset_6 (Nat.le_of_ble_eq_true rfl) rfl rfl ?_
  refine xt_iconst (v := nI 0) C dX3_faultOffset_7 rfl ?_
  refine xt_istore_n (lo' := [_, _, _, _, _]) C dX3_faultOffset_8 (Nat.le_of_ble_eq_true rfl) rfl rfl ?_
  have h9 := loop (60 + 1) 0 0 (S.2.1 48) (by omega) hR0 (by omega) (by omega)
  rw [xt_sA_self] at h9
  exact xt_fg (by repeat' constructor) h9
end XC22
