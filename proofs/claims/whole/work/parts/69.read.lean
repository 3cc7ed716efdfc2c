/-! THE TILER: read -/
section XC37
variable {E : xt_Ev} {l : Launch} {S : xt_St}
set_option maxRecDepth 20000 in
set_option maxHeartbeats 2000000 in
theorem ct_read {Q : Option Value → xt_St → Prop} {QX : String → xt_St → Prop} (hst : l.stackTraces = false) {c r sd lv bo : Nat} (hP : xt_Pic S 1 c r sd lv bo) {nx kp : Nat} (hh : xt_Hi S nx kp) {n : Nat} (hn9 : S.1 46 1 = nI n) (h60 : n ≤ 60) {R : Int32 × Nat × (Nat → Int32)} (hR : xt_fl (S.2.1 47) n 60 0 0 (S.2.1 48) = R) (hq1 : ¬ R.1 < 0 → QX "java/lang/IllegalArgumentException" (xt_sN (xt_sN (xt_sN (xt_sA S 48 R.2.2) 46 3 (nI R.2.1)) 46 1 (nI 0)) 0 7 R.1)) (hq2 : ∀ (st : Nat → Nat) (i3 : Nat), R.1 = -1 → (∀ j, j < R.2.1 → R.2.2 j = nI (st j) ∧ st j < 1000) → i3 < R.2.1 → ¬ xt_why (S.2.1 47) n (st i3) c r < 0 → (∀ j, j < i3 → xt_why (S.2.1 47) n (st j) c r = -1) → QX "java/lang/UnsupportedOperationException" (xt_sN (xt_sN (xt_sN (xt_sN (xt_sA S 48 R.2.2) 46 3 (nI R.2.1)) 46 1 (nI 0)) 0 8 (xt_why (S.2.1 47) n (st i3) c r)) 0 9 (nI i3))) (hq3 : ∀ (st : Nat → Nat) (T : xt_St), R.1 = -1 → (∀ j, j < R.2.1 → R.2.2 j = nI (st j) ∧ st j < 1000) → (∀ j, j < R.2.1 → xt_why (S.2.1 47) n (st j) c r = -1) → xt_crd (xt_keep (xt_sN (xt_sA S 48 R.2.2) 46 3 (nI R.2.1)) nx kp) T → xt_chn (S.2.1 47) n c st (xt_pk (xt_keep (xt_sN (xt_sA S 48 R.2.2) 46 3 (nI R.2.1)) nx kp)) R.2.1 (xt_pk T) → Q (some (.int (nI R.2.1))) (xt_sN T 46 1 (nI 0))) : xt_CtX E l yX5_read cX5_read 4 (some Jvm.ClassFile.FieldType.int) 7 153 1 6 [.ref (E.1 0)] S Q QX := by
  refine xt_bodyX (by decide +kernel) (xt_all rfl) (Nat.le_of_ble_eq_true rfl) (fun cx C hl9 hx9 => ?_)
  show xt_X E cx _ 0 0 0 [some (.ref (E.1 0)), none, none, none] [] S
  have hRp := xt_fl_p (a := S.2.1 47) h60 60 0 0 (S.2.1 48) (fun _ => 0) (by omega) (by omega) (by omega) (fun j hj => absurd hj (Nat.not_lt_zero _))
  rw [hR] at hRp
  refine xt_aload_n C dX5_read_0 rfl ?_
  refine xt_get (f := 6) C xt_u5 rfl (by decide) (xt_cl0 _ _) (by decide) lkX5_47 rfl dX5_read_1 ?_
  refine xt_cVN C mv_X3_faultOffset lkX5_318 (ct_faultOffset hn9 h60 hR) rfl (by decide) (xt_cl46 _ _) rfl (by decide) rfl (Nat.le_of_ble_eq_true rfl) dX5_read_4 ?_
  refine xt_istore_n (lo' := [_, _, _, _]) C dX5_read_7 (Nat.le_of_ble_eq_true rfl) rfl rfl ?_
  refine xt_iload_n C dX5_read_8 rfl ?_
  refine xt_if_lt (tgt := 36) C dX5_read_9 (by decide) (fun c9 => ?_) (fun c9 => ?_)
  · refine xt_iconst (v := nI 0) C dX5_read_36 rfl ?_
    refine xt_istore_n (lo' := [_, _, _, _]) C dX5_read_37 (Nat.le_of_ble_eq_true rfl) rfl rfl ?_
    rcases hRp with ⟨p, hp1, hp⟩ | ⟨hR1, hR20, st, hst9⟩
    · rw [hp] at c9
      exact absurd c9 (nI_pos (by omega))
    · have hsq : (∀ j, j < R.2.1 → R.2.2 j = nI (st j) ∧ st j < 1000) := fun j hj => ⟨(hst9 j hj).1, by have := (hst9 j hj).2.1; omega⟩
      have loop1 : ∀ (d1 i : Nat), i ≤ R.2.1 → (∀ j, j < i → xt_why (S.2.1 47) n (st j) c r = -1) → R.2.1 + 1 ≤ i + d1 → xt_X E cx (xt_ZX E cx 1 6 Q QX) 0 0 38 [some (.ref (E.1 0)), some (.int R.1), some (.int (nI i)), none] [] (xt_sN (xt_sA S 48 R.2.2) 46 3 (nI R.2.1)) := by
        intro d1
        induction d1 with
        | zero => intro i  h0i hall h1i; exact absurd h1i (by omega)
        | succ d1 ih1 =>
          intro i  h0i hall h1i
          refine xt_iload_n C dX5_read_38 rfl ?_
          refine xt_aload_n C dX5_read_39 rfl ?_
          refine xt_get (f := 6) C xt_u5 rfl (by decide) (xt_cl0 _ _) (by decide) lkX5_47 rfl dX5_read_40 ?_
          refine xt_getN (f := 3) C xt_u3 rfl (by decide) (xt_cl46 _ _) (by decide) lkX5_323 (xt_vI (by exact xt_s2_v)) dX5_read_43 ?_
          refine xt_icmp_geN (tgt := 97) C dX5_read_46 (by decide) (by omega) (by omega) (fun c46 => ?_) (fun c46 => ?_)
          · refine xt_aload_n C dX5_read_97 rfl ?_
            refine xt_get (f := 3) C xt_u5 rfl (by decide) (xt_cl0 _ _) (by decide) lkX5_26 rfl dX5_read_98 ?_
            refine xt_aload_n C dX5_read_101 rfl ?_
            refine xt_get (f := 0) C xt_u5 rfl (by decide) (xt_cl0 _ _) (by decide) lkX5_10 rfl dX5_read_102 ?_
            refine xt_cVNn C mv_X0_keep lkX5_72 (ct_keep (S := (xt_sN (xt_sA S 48 R.2.2) 46 3 (nI R.2.1))) hh.1 hh.2.1 hh.2.2.1 hh.2.2.2) rfl (by decide) (xt_cl7 _ _) rfl (by decide) rfl (Nat.le_of_ble_eq_true rfl) dX5_read_105 ?_
            refine xt_iconst (v := nI 0) C dX5_read_108 rfl ?_
            refine xt_istore_n (lo' := [_, _, _, _]) C dX5_read_109 (Nat.le_of_ble_eq_true rfl) rfl rfl ?_
            have hall9 : ∀ j, j < R.2.1 → xt_why (S.2.1 47) n (st j) c r = -1 := fun j hj => hall j (by omega)
            have loop2 : ∀ (d2 i : Nat) (T : xt_St) (sd lv bo : Nat), i ≤ R.2.1 → (xt_crd (xt_keep (xt_sN (xt_sA S 48 R.2.2) 46 3 (nI R.2.1)) nx kp) T) → xt_Pic T 1 c r sd lv bo → (xt_chn (S.2.1 47) n c st (xt_pk (xt_keep (xt_sN (xt_sA S 48 R.2.2) 46 3 (nI R.2.1)) nx kp)) i (xt_pk T)) → R.2.1 + 1 ≤ i + d2 → xt_X E cx (xt_ZX E cx 1 6 Q QX) 0 0 110 [some (.ref (E.1 0)), some (.int R.1), some (.int (nI i)), none] [] T := by
              intro d2
              induction d2 with
              | zero => intro i T sd lv bo h0i hcr hPT hch h1i; exact absurd h1i (by omega)
              | succ d2 ih2 =>
                intro i T sd lv bo h0i hcr hPT hch h1i
                have hnx := hh.2.2.1
                have hit : T.1 46 3 = nI R.2.1 := by
                  rw [hcr.1 46 3 (by omega), xt_keep_1 (by omega) (by omega)]
                  exact xt_s2_v
                have h1 : T.1 46 1 = nI n := by
                  rw [hcr.1 46 1 (by omega), xt_keep_1 (by omega) (by omega), xt_sN_o (by omega)]
                  exact hn9
                have h47 : T.2.1 47 = S.2.1 47 := by
                  rw [hcr.2.1 47 (by omega) (by omega), xt_keep_2 (by omega) (by omega)]
                  exact xt_sA_n (by decide)
                have e48 : T.2.1 48 = R.2.2 := by
                  rw [hcr.2.1 48 (by omega) (by omega), xt_keep_2 (by omega) (by omega)]
                  exact xt_sA_s
                have h48 : i < R.2.1 → T.2.1 48 i = nI (st i) := fun h => by rw [e48]; exact (hsq i h).1
                refine xt_iload_n C dX5_read_110 rfl ?_
                refine xt_aload_n C dX5_read_111 rfl ?_
                refine xt_get (f := 6) C xt_u5 rfl (by decide) (xt_cl0 _ _) (by decide) lkX5_47 rfl dX5_read_112 ?_
                refine xt_getN (f := 3) C xt_u3 rfl (by decide) (xt_cl46 _ _) (by decide) lkX5_323 (xt_vI hit) dX5_read_115 ?_
                refine xt_icmp_geN (tgt := 139) C dX5_read_118 (by decide) (by omega) (by omega) (fun c118 => ?_) (fun c118 => ?_)
                · refine xt_aload_n C dX5_read_139 rfl ?_
                  refine xt_get (f := 6) C xt_u5 rfl (by decide) (xt_cl0 _ _) (by decide) lkX5_47 rfl dX5_read_140 ?_
                  refine xt_iconst (v := nI 0) C dX5_read_143 rfl ?_
                  refine xt_putN (f := 1) C xt_u3 rfl (by decide) (xt_cl46 _ _) (by decide) tyX3 tyX3_ok nmX3 lkX5_126 rfl (tyX3_ok 1 (by decide)) rfl rfl (Nat.le_of_ble_eq_true rfl) rfl dX5_read_144 ?_
                  refine xt_aload_n C dX5_read_147 rfl ?_
                  refine xt_get (f := 6) C xt_u5 rfl (by decide) (xt_cl0 _ _) (by decide) lkX5_47 rfl dX5_read_148 ?_
                  refine xt_getN (f := 3) C xt_u3 rfl (by decide) (xt_cl46 _ _) (by decide) lkX5_323 (xt_vI hit) dX5_read_151 ?_
                  refine xt_ofM ?_
                  exact xt_iret C dX5_read_154 ⟨by decide, by decide⟩ (hq3 st T hR1 hsq hall9 hcr (by rw [show i = R.2.1 by omega] at hch; exact hch))
                · refine xt_aload_n C dX5_read_121 rfl ?_
                  refine xt_get (f := 6) C xt_u5 rfl (by decide) (xt_cl0 _ _) (by decide) lkX5_47 rfl dX5_read_122 ?_
                  refine xt_iload_n C dX5_read_125 rfl ?_
                  refine xt_aload_n C dX5_read_126 rfl ?_
                  refine xt_get (f := 0) C xt_u5 rfl (by decide) (xt_cl0 _ _) (by decide) lkX5_10 rfl dX5_read_127 ?_
                  refine xt_cVNpn C mv_X3_carryOut lkX5_332 (ct_carry hPT h1 h60 (h48 (by omega)) (by omega) (by have := (hst9 i (by omega)).2.1; omega) (by rw [h47]; exact (hst9 i (by omega)).2.2) (by rw [h47]; exact hall9 i (by omega))) rfl (by decide) (xt_cl46 _ _) rfl (by decide) rfl (Nat.le_of_ble_eq_true rfl) dX5_read_130 (fun S9 hq9 => ?_)
                  obtain ⟨hcr9, ⟨sd9, lv9, bo9, hPT9⟩, hap⟩ := hq9
                  rw [h47] at hap
                  refine xt_iincN (z := 1) (lo' := [_, _, _, _]) C dX5_read_133 rfl rfl rfl ?_
                  refine xt_goto (tgt := 110) C dX5_read_136 (by decide) ?_
                  exact xt_fg (by repeat' constructor) (ih2 (i + 1) _ sd9 lv9 bo9 (by omega) (xt_crd_tr hcr hcr9) hPT9 ⟨xt_pk T, hch, hap⟩ (by omega))
            exact xt_fg (by repeat' constructor) (loop2 (R.2.1 + 1) 0 (xt_keep (xt_sN (xt_sA S 48 R.2.2) 46 3 (nI R.2.1)) nx kp) sd lv bo (by omega) xt_crd_rf (xt_keep_P hP) rfl (by omega))
          · refine xt_aload_n C dX5_read_49 rfl ?_
            refine xt_get (f := 6) C xt_u5 rfl (by decide) (xt_cl0 _ _) (by decide) lkX5_47 rfl dX5_read_50 ?_
            refine xt_iload_n C dX5_read_53 rfl ?_
            refine xt_aload_n C dX5_read_54 rfl ?_
            refine xt_get (f := 0) C xt_u5 rfl (by decide) (xt_cl0 _ _) (by decide) lkX5_10 rfl dX5_read_55 ?_
            refine xt_cVN C mv_X3_reasonAgainst lkX5_326 (ct_reasonAgainst (S := (xt_sN (xt_sA S 48 R.2.2) 46 3 (nI R.2.1))) (R := xt_why (S.2.1 47) n (st i) c r) hP (by exact (xt_sN_o (by omega)).trans hn9) h60 (hsq i (by omega)).1 (by omega) (by have := (hst9 i (by omega)).2.1; omega) (xt_fo_x (hst9 i (by omega)).2.2) rfl) rfl (by decide) (xt_cl46 _ _) rfl (by decide) rfl (Nat.le_of_ble_eq_true rfl) dX5_read_58 ?_
            refine xt_istore_n (lo' := [_, _, _, _]) C dX5_read_61 (Nat.le_of_ble_eq_true rfl) rfl rfl ?_
            refine xt_iload_n C dX5_read_62 rfl ?_
            refine xt_if_lt (tgt := 91) C dX5_read_63 (by decide) (fun c63 => ?_) (fun c63 => ?_)
            · have hwn : xt_why (S.2.1 47) n (st i) c r = -1 := by
                rcases xt_why_v (a := S.2.1 47) (n := n) (b := st i) (c := c) (r := r) with h9 | ⟨m, h1, h3, h9⟩
                · exact h9
                · rw [h9] at c63
                  exact absurd c63 (nI_pos (by omega))
              refine xt_iincN (z := 1) (lo' := [_, _, _, _]) C dX5_read_91 rfl rfl rfl ?_
              refine xt_goto (tgt := 38) C dX5_read_94 (by decide) ?_
              exact xt_fg (by repeat' constructor) (ih1 (i + 1) (by omega) (fun j hj => by
                by_cases e9 : j = i
                · rw [e9]; exact hwn
                · exact hall j (by omega)) (by omega))
            · refine xt_aload_n C dX5_read_66 rfl ?_
              refine xt_get (f := 6) C xt_u5 rfl (by decide) (xt_cl0 _ _) (by decide) lkX5_47 rfl dX5_read_67 ?_
              refine xt_iconst (v := nI 0) C dX5_read_70 rfl ?_
              refine xt_putN (f := 1) C xt_u3 rfl (by decide) (xt_cl46 _ _) (by decide) tyX3 tyX3_ok nmX3 lkX5_126 rfl (tyX3_ok 1 (by decide)) rfl rfl (Nat.le_of_ble_eq_true rfl) rfl dX5_read_71 ?_
              refine xt_aload_n C dX5_read_74 rfl ?_
              refine xt_iload_n C dX5_read_75 rfl ?_
              refine xt_iload_n C dX5_read_76 rfl ?_
              refine xt_cVn C mv_X5_refuse lkX5_206 ct_refuse rfl (by decide) (xt_cl0 _ _) rfl (by decide) rfl (Nat.le_of_ble_eq_true rfl) dX5_read_77 ?_
              exact xt_throwW (i := 26) C (by rw [hl9]; exact hst) hx9 xw_209 rfl dX5_read_80 dX5_read_83 dX5_read_84 dX5_read_87 dX5_read_90 rfl ⟨by decide, by decide, by decide, by decide⟩ (by decide) ⟨by decide, by decide⟩ (hq2 st i hR1 hsq (by omega) c63 hall)
      exact xt_fg (by repeat' constructor) (loop1 (R.2.1 + 1) 0 (by omega) (fun j hj => absurd hj (Nat.not_lt_zero _)) (by omega))
  · refine xt_aload_n C dX5_read_12 rfl ?_
    refine xt_get (f := 6) C xt_u5 rfl (by decide) (xt_cl0 _ _) (by decide) lkX5_47 rfl dX5_read_13 ?_
    refine xt_iconst (v := nI 0) C dX5_read_16 rfl ?_
    refine xt_putN (f := 1) C xt_u3 rfl (by decide) (xt_cl46 _ _) (by decide) tyX3 tyX3_ok nmX3 lkX5_126 rfl (tyX3_ok 1 (by decide)) rfl rfl (Nat.le_of_ble_eq_true rfl) rfl dX5_read_17 ?_
    refine xt_aload_n C dX5_read_20 rfl ?_
    refine xt_iload_n C dX5_read_21 rfl ?_
    refine xt_put (f := 7) C xt_u5 rfl (by decide) (xt_cl0 _ _) (by decide) tyX5 tyX5_ok nmX5 lkX5_51 rfl (tyX5_ok 7 (by decide)) rfl rfl (Nat.le_of_ble_eq_true rfl) rfl dX5_read_22 ?_
    exact xt_throwW (i := 25) C (by rw [hl9]; exact hst) hx9 xw_65 rfl dX5_read_25 dX5_read_28 dX5_read_29 dX5_read_32 dX5_read_35 rfl ⟨by decide, by decide, by decide, by decide⟩ (by decide) ⟨by decide, by decide⟩ (hq1 c9)
end XC37
