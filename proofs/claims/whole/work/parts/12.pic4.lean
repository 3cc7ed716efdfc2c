/-! THE PICTURE'S EDITS, COPIES; THE HISTORY -/
section XC5
variable {E : xt_Ev} {l : Launch} {S : xt_St}
set_option maxRecDepth 20000 in
set_option maxHeartbeats 2000000 in
theorem ct_firstHurt {c r sd lv bo : Nat} (hP : xt_Pic S 1 c r sd lv bo) {t : Nat} (ht : t < xt_nt c r sd) {by9 : Int32} : xt_Ct E l yX1_firstHurt cX1_firstHurt 10 (some Jvm.ClassFile.FieldType.int) 4 84 0 0 [.ref (E.1 1), .int (nI t), .int by9] S (fun v S9 => S9 = S ∧ ((∃ y x, y < xt_gh c r sd t ∧ x < xt_gw c sd t ∧ v = some (.int (nI ((xt_gt c sd t + y) * c + (xt_gl c sd t + x)))) ∧ ¬ xt_okv (S.2.1 2 ((xt_gt c sd t + y) * c + (xt_gl c sd t + x)) + by9) ∧ ∀ y9 x9, y9 < xt_gh c r sd t → x9 < xt_gw c sd t → (y9 < y ∨ (y9 = y ∧ x9 < x)) → xt_okv (S.2.1 2 ((xt_gt c sd t + y9) * c + (xt_gl c sd t + x9)) + by9)) ∨ (v = some (.int (-1)) ∧ ∀ y9 x9, y9 < xt_gh c r sd t → x9 < xt_gw c sd t → xt_okv (S.2.1 2 ((xt_gt c sd t + y9) * c + (xt_gl c sd t + x9)) + by9)))) := by
  refine xt_body (by decide +kernel) (xt_all rfl) (Nat.le_of_ble_eq_true rfl) (fun cx C hl9 => ?_)
  show xt_X E cx _ 0 0 0 [some (.ref (E.1 1)), some (.int (nI t)), some (.int by9), none, none, none, none, none, none, none] [] S
  have hP9 := hP
  obtain ⟨hc, hr, hs, hv, hb, b1, b2, b3, b4, b5, b6, b7⟩ := hP
  have hn := xt_nt_b ⟨b1, b2⟩ ⟨b3, b4⟩ b5
  have hT := xt_tile_b ⟨b1, b2⟩ ⟨b3, b4⟩ b5 ht
  generalize hlf : xt_gl c sd t = lf at hT ⊢
  generalize htp : xt_gt c sd t = tp at hT ⊢
  generalize hw : xt_gw c sd t = w at hT ⊢
  generalize hh : xt_gh c r sd t = h at hT ⊢
  have out1 : ∀ (d1 y : Nat), y ≤ h → (∀ y9 x9, y9 < y → x9 < w → xt_okv (S.2.1 2 ((tp + y9) * c + (lf + x9)) + by9)) → h + 1 ≤ y + d1 → xt_X E cx (xt_ZM E cx 0 0 (fun v S9 => S9 = S ∧ ((∃ y x, y < h ∧ x < w ∧ v = some (.int (nI ((tp + y) * c + (lf + x)))) ∧ ¬ xt_okv (S.2.1 2 ((tp + y) * c + (lf + x)) + by9) ∧ ∀ y9 x9, y9 < h → x9 < w → (y9 < y ∨ (y9 = y ∧ x9 < x)) → xt_okv (S.2.1 2 ((tp + y9) * c + (lf + x9)) + by9)) ∨ (v = some (.int (-1)) ∧ ∀ y9 x9, y9 < h → x9 < w → xt_okv (S.2.1 2 ((tp + y9) * c + (lf + x9)) + by9))))) 0 0 30 [some (.ref (E.1 1)), some (.int (nI t)), some (.int by9), some (.int (nI lf)), some (.int (nI tp)), some (.int (nI w)), some (.int (nI h)), some (.int (nI y)), none, none] [] S := by
    intro d1
    induction d1 with
    | zero => intro y  h0y hao h1y; exact absurd h1y (by omega)
    | succ d1 ih1 =>
      intro y  h0y hao h1y
      refine xt_iload C dX1_firstHurt_30 rfl ?_
      refine xt_iload C dX1_firstHurt_32 rfl ?_
      refine xt_icmp_geN (tgt := 98) C dX1_firstHurt_34 (by decide) (by omega) (by omega) (fun c34 => ?_) (fun c34 => ?_)
      · refine xt_iconst (v := -1) C dX1_firstHurt_98 rfl ?_
        exact xt_iret C dX1_firstHurt_99 ⟨by decide, by decide⟩ ⟨rfl, Or.inr ⟨rfl, fun y9 x9 g1 g2 => hao y9 x9 (by omega) g2⟩⟩
      · refine xt_iconst (v := nI 0) C dX1_firstHurt_37 rfl ?_
        refine xt_istore (lo' := [_, _, _, _, _, _, _, _, _, _]) C dX1_firstHurt_38 (Nat.le_of_ble_eq_true rfl) rfl rfl ?_
        have in2 : ∀ (d2 x : Nat), x ≤ w → (∀ x9, x9 < x → xt_okv (S.2.1 2 ((tp + y) * c + (lf + x9)) + by9)) → w + 1 ≤ x + d2 → xt_X E cx (xt_ZM E cx 0 0 (fun v S9 => S9 = S ∧ ((∃ y x, y < h ∧ x < w ∧ v = some (.int (nI ((tp + y) * c + (lf + x)))) ∧ ¬ xt_okv (S.2.1 2 ((tp + y) * c + (lf + x)) + by9) ∧ ∀ y9 x9, y9 < h → x9 < w → (y9 < y ∨ (y9 = y ∧ x9 < x)) → xt_okv (S.2.1 2 ((tp + y9) * c + (lf + x9)) + by9)) ∨ (v = some (.int (-1)) ∧ ∀ y9 x9, y9 < h → x9 < w → xt_okv (S.2.1 2 ((tp + y9) * c + (lf + x9)) + by9))))) 0 0 40 [some (.ref (E.1 1)), some (.int (nI t)), some (.int by9), some (.int (nI lf)), some (.int (nI tp)), some (.int (nI w)), some (.int (nI h)), some (.int (nI y)), some (.int (nI x)), none] [] S := by
          intro d2
          induction d2 with
          | zero => intro x  h0x hai h1x; exact absurd h1x (by omega)
          | succ d2 ih2 =>
            intro x  h0x hai h1x
            refine xt_iload C dX1_firstHurt_40 rfl ?_
            refine xt_iload C dX1_firstHurt_42 rfl ?_
            refine xt_icmp_geN (tgt := 92) C dX1_firstHurt_44 (by decide) (by omega) (by omega) (fun c44 => ?_) (fun c44 => ?_)
            · refine xt_iincN (z := 1) (lo' := [_, _, _, _, _, _, _, _, _, _]) C dX1_firstHurt_92 rfl rfl rfl ?_
              refine xt_goto (tgt := 30) C dX1_firstHurt_95 (by decide) ?_
              have hx9 : x = w := by omega
              subst hx9
              exact xt_fg (by repeat' constructor) (ih1 (y + 1) (by omega) (fun y9 x9 g8 g9 => by rcases Nat.lt_succ_iff_lt_or_eq.mp g8 with g | rfl; exact hao y9 x9 g g9; exact hai x9 g9) (by omega))
            · refine xt_aload_n C dX1_firstHurt_47 rfl ?_
              refine xt_iload_n C dX1_firstHurt_48 rfl ?_
              refine xt_iload C dX1_firstHurt_49 rfl ?_
              refine xt_iaddN C dX1_firstHurt_51 ?_
              refine xt_iload C dX1_firstHurt_52 rfl ?_
              refine xt_iload C dX1_firstHurt_54 rfl ?_
              refine xt_iaddN C dX1_firstHurt_56 ?_
              refine xt_cV C mv_X1_indexOf lkX1_46 (ct_indexOf (by exact hP9)) rfl (by decide) (xt_cl1 _ _) rfl (by decide) rfl (Nat.le_of_ble_eq_true rfl) dX1_firstHurt_57 ?_
              refine xt_istore (lo' := [_, _, _, _, _, _, _, _, _, _]) C dX1_firstHurt_60 (Nat.le_of_ble_eq_true rfl) rfl rfl ?_
              refine xt_aload_n C dX1_firstHurt_62 rfl ?_
              refine xt_get (f := 5) C xt_u1 rfl (by decide) (xt_cl1 _ _) (by decide) lkX1_27 rfl dX1_firstHurt_63 ?_
              refine xt_iload C dX1_firstHurt_66 rfl ?_
              refine xt_cSN C ms_X5_at lkX1_34 (ct_at (by decide) (xt_cl2 _) (by decide) (xt_ix (c := c) (r := r) (by omega) (by omega) b2 b4).1 rfl) rfl (by decide) rfl (Nat.le_of_ble_eq_true rfl) dX1_firstHurt_68 ?_
              refine xt_iload_n C dX1_firstHurt_71 rfl ?_
              refine xt_iadd C dX1_firstHurt_72 ?_
              refine xt_iconst (v := nI 0) C dX1_firstHurt_73 rfl ?_
              refine xt_sipush (v := nI 255) C dX1_firstHurt_74 (by decide) ?_
              refine xt_cSN C ms_X5_isBetween lkX1_42 ct_between rfl (by decide) rfl (Nat.le_of_ble_eq_true rfl) dX1_firstHurt_77 ?_
              refine xt_if_neB (tgt := 86) C dX1_firstHurt_80 (by decide) (fun c80 => ?_) (fun c80 => ?_)
              · refine xt_iincN (z := 1) (lo' := [_, _, _, _, _, _, _, _, _, _]) C dX1_firstHurt_86 rfl rfl rfl ?_
                refine xt_goto (tgt := 40) C dX1_firstHurt_89 (by decide) ?_
                have h9 := ih2 (x + 1) (by omega) (fun x9 g9 => by rcases Nat.lt_succ_iff_lt_or_eq.mp g9 with g | rfl; exact hai x9 g; exact c80) (by omega)
                exact xt_fg (by repeat' constructor) h9
              · refine xt_iload C dX1_firstHurt_83 rfl ?_
                exact xt_iret C dX1_firstHurt_85 ⟨by decide, by decide⟩ ⟨rfl, Or.inl ⟨y, x, by omega, by omega, rfl, c80, fun y9 x9 g1 g2 g3 => by rcases g3 with g3 | ⟨rfl, g3⟩; exact hao y9 x9 g3 g2; exact hai x9 g3⟩⟩
        exact xt_fg (by repeat' constructor) (in2 (w + 1) 0 (by omega) (fun x9 h => absurd h (Nat.not_lt_zero _)) (by omega))
  refine xt_aload_n C dX1_firstHurt_0 rfl ?_
  refine xt_iload_n C dX1_firstHurt_1 rfl ?_
  refine xt_cV C mv_X1_leftOf lkX1_60 (ct_leftOf (by exact hP9) ht) rfl (by decide) (xt_cl1 _ _) rfl (by decide) rfl (Nat.le_of_ble_eq_true rfl) dX1_firstHurt_2 ?_
  refine xt_istore_n (lo' := [_, _, _, _, _, _, _, _, _, _]) C dX1_firstHurt_5 (Nat.le_of_ble_eq_true rfl) rfl rfl ?_
  refine xt_aload_n C dX1_firstHurt_6 rfl ?_
  refine xt_iload_n C dX1_firstHurt_7 rfl ?_
  refine xt_cV C mv_X1_topOf lkX1_69 (ct_topOf (by exact hP9) ht) rfl (by decide) (xt_cl1 _ _) rfl (by decide) rfl (Nat.le_of_ble_eq_true rfl) dX1_firstHurt_8 ?_
  refine xt_istore (lo' := [_, _, _, _, _, _, _, _, _, _]) C dX1_firstHurt_11 (Nat.le_of_ble_eq_true rfl) rfl rfl ?_
  refine xt_aload_n C dX1_firstHurt_13 rfl ?_
  refine xt_iload_n C dX1_firstHurt_14 rfl ?_
  refine xt_cV C mv_X1_widthOf lkX1_72 (ct_widthOf (by exact hP9) ht) rfl (by decide) (xt_cl1 _ _) rfl (by decide) rfl (Nat.le_of_ble_eq_true rfl) dX1_firstHurt_15 ?_
  refine xt_istore (lo' := [_, _, _, _, _, _, _, _, _, _]) C dX1_firstHurt_18 (Nat.le_of_ble_eq_true rfl) rfl rfl ?_
  refine xt_aload_n C dX1_firstHurt_20 rfl ?_
  refine xt_iload_n C dX1_firstHurt_21 rfl ?_
  refine xt_cV C mv_X1_heightOf lkX1_75 (ct_heightOf (by exact hP9) ht) rfl (by decide) (xt_cl1 _ _) rfl (by decide) rfl (Nat.le_of_ble_eq_true rfl) dX1_firstHurt_22 ?_
  refine xt_istore (lo' := [_, _, _, _, _, _, _, _, _, _]) C dX1_firstHurt_25 (Nat.le_of_ble_eq_true rfl) rfl rfl ?_
  refine xt_iconst (v := nI 0) C dX1_firstHurt_27 rfl ?_
  refine xt_istore (lo' := [_, _, _, _, _, _, _, _, _, _]) C dX1_firstHurt_28 (Nat.le_of_ble_eq_true rfl) rfl rfl ?_
  rw [hlf, htp, hw, hh]
  exact xt_fg (by repeat' constructor) (out1 (h + 1) 0 (by omega) (fun y9 x9 h => absurd h (Nat.not_lt_zero _)) (by omega))
set_option maxRecDepth 20000 in
set_option maxHeartbeats 2000000 in
theorem ct_add {c r sd lv bo : Nat} (hP : xt_Pic S 1 c r sd lv bo) {t : Nat} (ht : t < xt_nt c r sd) {by9 : Int32} : xt_Ct E l yX1_add cX1_add 10 none 4 84 0 0 [.ref (E.1 1), .int (nI t), .int by9] S (xt_Eq none (xt_sA S 2 (xt_add2 c (xt_gl c sd t) (xt_gt c sd t) (xt_gw c sd t) (xt_gh c r sd t) by9 (S.2.1 2)))) := by
  refine xt_body (by decide +kernel) (xt_all rfl) (Nat.le_of_ble_eq_true rfl) (fun cx C hl9 => ?_)
  show xt_X E cx _ 0 0 0 [some (.ref (E.1 1)), some (.int (nI t)), some (.int by9), none, none, none, none, none, none, none] [] S
  have hP9 := hP
  obtain ⟨hc, hr, hs, hv, hb, b1, b2, b3, b4, b5, b6, b7⟩ := hP
  have hn := xt_nt_b ⟨b1, b2⟩ ⟨b3, b4⟩ b5
  have hT := xt_tile_b ⟨b1, b2⟩ ⟨b3, b4⟩ b5 ht
  generalize hlf : xt_gl c sd t = lf at hT ⊢
  generalize htp : xt_gt c sd t = tp at hT ⊢
  generalize hw : xt_gw c sd t = w at hT ⊢
  generalize hh : xt_gh c r sd t = h at hT ⊢
  have out1 : ∀ (d1 y : Nat), y ≤ h →  h + 1 ≤ y + d1 → xt_X E cx (xt_ZM E cx 0 0 (xt_Eq none (xt_sA S 2 (xt_add2 c lf tp w h by9 (S.2.1 2))))) 0 0 30 [some (.ref (E.1 1)), some (.int (nI t)), some (.int by9), some (.int (nI lf)), some (.int (nI tp)), some (.int (nI w)), some (.int (nI h)), some (.int (nI y)), none, none] [] (xt_sA S 2 (xt_it (fun y f => xt_it (fun x f => upd f ((tp + y) * c + (lf + x)) (f ((tp + y) * c + (lf + x)) + by9)) w f) y (S.2.1 2))) := by
    intro d1
    induction d1 with
    | zero => intro y  h0y  h1y; exact absurd h1y (by omega)
    | succ d1 ih1 =>
      intro y  h0y  h1y
      refine xt_iload C dX1_add_30 rfl ?_
      refine xt_iload C dX1_add_32 rfl ?_
      refine xt_icmp_geN (tgt := 94) C dX1_add_34 (by decide) (by omega) (by omega) (fun c34 => ?_) (fun c34 => ?_)
      · exact xt_vret C dX1_add_94 ⟨by decide, by decide⟩ (by have hy9 : y = h := (by omega);  rw [hy9]; exact ⟨rfl, rfl⟩)
      · refine xt_iconst (v := nI 0) C dX1_add_37 rfl ?_
        refine xt_istore (lo' := [_, _, _, _, _, _, _, _, _, _]) C dX1_add_38 (Nat.le_of_ble_eq_true rfl) rfl rfl ?_
        have in2 : ∀ (d2 x : Nat), x ≤ w →  w + 1 ≤ x + d2 → xt_X E cx (xt_ZM E cx 0 0 (xt_Eq none (xt_sA S 2 (xt_add2 c lf tp w h by9 (S.2.1 2))))) 0 0 40 [some (.ref (E.1 1)), some (.int (nI t)), some (.int by9), some (.int (nI lf)), some (.int (nI tp)), some (.int (nI w)), some (.int (nI h)), some (.int (nI y)), some (.int (nI x)), none] [] (xt_sA S 2 (xt_it (fun x f => upd f ((tp + y) * c + (lf + x)) (f ((tp + y) * c + (lf + x)) + by9)) x (xt_it (fun y f => xt_it (fun x f => upd f ((tp + y) * c + (lf + x)) (f ((tp + y) * c + (lf + x)) + by9)) w f) y (S.2.1 2)))) := by
          intro d2
          induction d2 with
          | zero => intro x  h0x  h1x; exact absurd h1x (by omega)
          | succ d2 ih2 =>
            intro x  h0x  h1x
            refine xt_iload C dX1_add_40 rfl ?_
            refine xt_iload C dX1_add_42 rfl ?_
            refine xt_icmp_geN (tgt := 88) C dX1_add_44 (by decide) (by omega) (by omega) (fun c44 => ?_) (fun c44 => ?_)
            · refine xt_iincN (z := 1) (lo' := [_, _, _, _, _, _, _, _, _, _]) C dX1_add_88 rfl rfl rfl ?_
              refine xt_goto (tgt := 30) C dX1_add_91 (by decide) ?_
              have hx9 : x = w := by omega
              subst hx9
              exact xt_fg (by repeat' constructor) (ih1 (y + 1) (by omega)  (by omega))
            · refine xt_aload_n C dX1_add_47 rfl ?_
              refine xt_iload_n C dX1_add_48 rfl ?_
              refine xt_iload C dX1_add_49 rfl ?_
              refine xt_iaddN C dX1_add_51 ?_
              refine xt_iload C dX1_add_52 rfl ?_
              refine xt_iload C dX1_add_54 rfl ?_
              refine xt_iaddN C dX1_add_56 ?_
              refine xt_cV C mv_X1_indexOf lkX1_46 (ct_indexOf (by exact hP9)) rfl (by decide) (xt_cl1 _ _) rfl (by decide) rfl (Nat.le_of_ble_eq_true rfl) dX1_add_57 ?_
              refine xt_istore (lo' := [_, _, _, _, _, _, _, _, _, _]) C dX1_add_60 (Nat.le_of_ble_eq_true rfl) rfl rfl ?_
              refine xt_aload_n C dX1_add_62 rfl ?_
              refine xt_get (f := 5) C xt_u1 rfl (by decide) (xt_cl1 _ _) (by decide) lkX1_27 rfl dX1_add_63 ?_
              refine xt_iload C dX1_add_66 rfl ?_
              refine xt_aload_n C dX1_add_68 rfl ?_
              refine xt_get (f := 5) C xt_u1 rfl (by decide) (xt_cl1 _ _) (by decide) lkX1_27 rfl dX1_add_69 ?_
              refine xt_iload C dX1_add_72 rfl ?_
              refine xt_cSN C ms_X5_at lkX1_34 (ct_at (by decide) (xt_cl2 _) (by decide) (xt_ix (c := c) (r := r) (by omega) (by omega) b2 b4).1 (v := (xt_it (fun x f => upd f ((tp + y) * c + (lf + x)) (f ((tp + y) * c + (lf + x)) + by9)) x (xt_it (fun y f => xt_it (fun x f => upd f ((tp + y) * c + (lf + x)) (f ((tp + y) * c + (lf + x)) + by9)) w f) y (S.2.1 2))) ((tp + y) * c + (lf + x))) rfl) rfl (by decide) rfl (Nat.le_of_ble_eq_true rfl) dX1_add_74 ?_
              refine xt_iload_n C dX1_add_77 rfl ?_
              refine xt_iadd C dX1_add_78 ?_
              refine xt_cSNn C ms_X5_put lkX1_38 (ct_put (by decide) (xt_cl2 _) (by decide) (xt_ix (c := c) (r := r) (by omega) (by omega) b2 b4).1) rfl (by decide) rfl (Nat.le_of_ble_eq_true rfl) dX1_add_79 ?_
              refine xt_iincN (z := 1) (lo' := [_, _, _, _, _, _, _, _, _, _]) C dX1_add_82 rfl rfl rfl ?_
              refine xt_goto (tgt := 40) C dX1_add_85 (by decide) ?_
              have h9 := ih2 (x + 1) (by omega)  (by omega)
              rw [xt_sA_sA]
              exact xt_fg (by repeat' constructor) h9
        exact xt_fg (by repeat' constructor) (in2 (w + 1) 0 (by omega)  (by omega))
  refine xt_aload_n C dX1_add_0 rfl ?_
  refine xt_iload_n C dX1_add_1 rfl ?_
  refine xt_cV C mv_X1_leftOf lkX1_60 (ct_leftOf (by exact hP9) ht) rfl (by decide) (xt_cl1 _ _) rfl (by decide) rfl (Nat.le_of_ble_eq_true rfl) dX1_add_2 ?_
  refine xt_istore_n (lo' := [_, _, _, _, _, _, _, _, _, _]) C dX1_add_5 (Nat.le_of_ble_eq_true rfl) rfl rfl ?_
  refine xt_aload_n C dX1_add_6 rfl ?_
  refine xt_iload_n C dX1_add_7 rfl ?_
  refine xt_cV C mv_X1_topOf lkX1_69 (ct_topOf (by exact hP9) ht) rfl (by decide) (xt_cl1 _ _) rfl (by decide) rfl (Nat.le_of_ble_eq_true rfl) dX1_add_8 ?_
  refine xt_istore (lo' := [_, _, _, _, _, _, _, _, _, _]) C dX1_add_11 (Nat.le_of_ble_eq_true rfl) rfl rfl ?_
  refine xt_aload_n C dX1_add_13 rfl ?_
  refine xt_iload_n C dX1_add_14 rfl ?_
  refine xt_cV C mv_X1_widthOf lkX1_72 (ct_widthOf (by exact hP9) ht) rfl (by decide) (xt_cl1 _ _) rfl (by decide) rfl (Nat.le_of_ble_eq_true rfl) dX1_add_15 ?_
  refine xt_istore (lo' := [_, _, _, _, _, _, _, _, _, _]) C dX1_add_18 (Nat.le_of_ble_eq_true rfl) rfl rfl ?_
  refine xt_aload_n C dX1_add_20 rfl ?_
  refine xt_iload_n C dX1_add_21 rfl ?_
  refine xt_cV C mv_X1_heightOf lkX1_75 (ct_heightOf (by exact hP9) ht) rfl (by decide) (xt_cl1 _ _) rfl (by decide) rfl (Nat.le_of_ble_eq_true rfl) dX1_add_22 ?_
  refine xt_istore (lo' := [_, _, _, _, _, _, _, _, _, _]) C dX1_add_25 (Nat.le_of_ble_eq_true rfl) rfl rfl ?_
  refine xt_iconst (v := nI 0) C dX1_add_27 rfl ?_
  refine xt_istore (lo' := [_, _, _, _, _, _, _, _, _, _]) C dX1_add_28 (Nat.le_of_ble_eq_true rfl) rfl rfl ?_
  rw [hlf, htp, hw, hh]
  have h9 := out1 (h + 1) 0 (by omega) (by omega)
  rw [show (xt_it (fun y f => xt_it (fun x f => upd f ((tp + y) * c + (lf + x)) (f ((tp + y) * c + (lf + x)) + by9)) w f) 0 (S.2.1 2)) = S.2.1 2 from rfl, show xt_sA S 2 (S.2.1 2) = S from xt_sA_self] at h9
  exact xt_fg (by repeat' constructor) h9
theorem xt_ct_rw {y : MethodName} {cc : ByteArray} {nL : Nat} {ret : Option FieldType} {fr lw : Nat} {av : List Value} {a b : Nat} (e : a = b) (h : xt_Ct E l y cc nL ret fr lw 0 0 av S (xt_Eq (some (.int (nI a))) S)) : xt_Ct E l y cc nL ret fr lw 0 0 av S (xt_Eq (some (.int (nI b))) S) := e ▸ h
set_option maxRecDepth 20000 in
set_option maxHeartbeats 2000000 in
theorem ct_exchange {c r sd lv bo : Nat} (hP : xt_Pic S 1 c r sd lv bo) {t : Nat} (ht : t < xt_nt c r sd) {u : Nat} (hu : u < xt_nt c r sd) (ew : xt_gw c sd u = xt_gw c sd t) (eh : xt_gh c r sd u = xt_gh c r sd t) : xt_Ct E l yX1_exchange cX1_exchange 11 (some Jvm.ClassFile.FieldType.int) 4 84 0 0 [.ref (E.1 1), .int (nI t), .int (nI u)] S (xt_Eq (some (.int (xt_exch c (xt_gl c sd t) (xt_gt c sd t) (xt_gl c sd u) (xt_gt c sd u) (xt_gw c sd t) (xt_gh c r sd t) (S.2.1 2)).2)) (xt_sA S 2 (xt_exch c (xt_gl c sd t) (xt_gt c sd t) (xt_gl c sd u) (xt_gt c sd u) (xt_gw c sd t) (xt_gh c r sd t) (S.2.1 2)).1)) := by
  refine xt_body (by decide +kernel) (xt_all rfl) (Nat.le_of_ble_eq_true rfl) (fun cx C hl9 => ?_)
  show xt_X E cx _ 0 0 0 [some (.ref (E.1 1)), some (.int (nI t)), some (.int (nI u)), none, none, none, none, none, none, none, none] [] S
  have hP9 := hP
  obtain ⟨hc, hr, hs, hv, hb, b1, b2, b3, b4, b5, b6, b7⟩ := hP
  have hn := xt_nt_b ⟨b1, b2⟩ ⟨b3, b4⟩ b5
  have hT := xt_tile_b ⟨b1, b2⟩ ⟨b3, b4⟩ b5 ht
  have hU := xt_tile_b ⟨b1, b2⟩ ⟨b3, b4⟩ b5 hu
  rw [ew, eh] at hU
  generalize hlf : xt_gl c sd t = lf at hT ⊢
  generalize htp : xt_gt c sd t = tp at hT ⊢
  generalize hw : xt_gw c sd t = w at hT hU ⊢
  generalize hh : xt_gh c r sd t = h at hT hU ⊢
  generalize hlf2 : xt_gl c sd u = lf2 at hU ⊢
  generalize htp2 : xt_gt c sd u = tp2 at hU ⊢
  have out1 : ∀ (d1 y : Nat), y ≤ h →  h + 1 ≤ y + d1 → xt_X E cx (xt_ZM E cx 0 0 (xt_Eq (some (.int (xt_exch c lf tp lf2 tp2 w h (S.2.1 2)).2)) (xt_sA S 2 (xt_exch c lf tp lf2 tp2 w h (S.2.1 2)).1))) 0 0 19 [some (.ref (E.1 1)), some (.int (nI t)), some (.int (nI u)), some (.int (nI w)), some (.int (nI h)), some (.int (xt_it (fun y q => xt_it (fun x q => xt_xs ((tp + y) * c + (lf + x)) ((tp2 + y) * c + (lf2 + x)) q) w q) y (S.2.1 2, 0)).2), some (.int (nI y)), none, none, none, none] [] (xt_sA S 2 (xt_it (fun y q => xt_it (fun x q => xt_xs ((tp + y) * c + (lf + x)) ((tp2 + y) * c + (lf2 + x)) q) w q) y (S.2.1 2, 0)).1) := by
    intro d1
    induction d1 with
    | zero => intro y  h0y  h1y; exact absurd h1y (by omega)
    | succ d1 ih1 =>
      intro y  h0y  h1y
      refine xt_iload C dX1_exchange_19 rfl ?_
      refine xt_iload C dX1_exchange_21 rfl ?_
      refine xt_icmp_geN (tgt := 148) C dX1_exchange_23 (by decide) (by omega) (by omega) (fun c23 => ?_) (fun c23 => ?_)
      · refine xt_iload C dX1_exchange_148 rfl ?_
        exact xt_iret C dX1_exchange_150 ⟨by decide, by decide⟩ (by have hy9 : y = h := (by omega);  rw [hy9]; exact ⟨rfl, rfl⟩)
      · refine xt_iconst (v := nI 0) C dX1_exchange_26 rfl ?_
        refine xt_istore (lo' := [_, _, _, _, _, _, _, _, _, _, _]) C dX1_exchange_27 (Nat.le_of_ble_eq_true rfl) rfl rfl ?_
        have in2 : ∀ (d2 x : Nat), x ≤ w →  w + 1 ≤ x + d2 → xt_X E cx (xt_ZM E cx 0 0 (xt_Eq (some (.int (xt_exch c lf tp lf2 tp2 w h (S.2.1 2)).2)) (xt_sA S 2 (xt_exch c lf tp lf2 tp2 w h (S.2.1 2)).1))) 0 0 29 [some (.ref (E.1 1)), some (.int (nI t)), some (.int (nI u)), some (.int (nI w)), some (.int (nI h)), some (.int (xt_it (fun x q => xt_xs ((tp + y) * c + (lf + x)) ((tp2 + y) * c + (lf2 + x)) q) x (xt_it (fun y q => xt_it (fun x q => xt_xs ((tp + y) * c + (lf + x)) ((tp2 + y) * c + (lf2 + x)) q) w q) y (S.2.1 2, 0))).2), some (.int (nI y)), some (.int (nI x)), none, none, none] [] (xt_sA S 2 (xt_it (fun x q => xt_xs ((tp + y) * c + (lf + x)) ((tp2 + y) * c + (lf2 + x)) q) x (xt_it (fun y q => xt_it (fun x q => xt_xs ((tp + y) * c + (lf + x)) ((tp2 + y) * c + (lf2 + x)) q) w q) y (S.2.1 2, 0))).1) := by
          intro d2
          induction d2 with
          | zero => intro x  h0x  h1x; exact absurd h1x (by omega)
          | succ d2 ih2 =>
            intro x  h0x  h1x
            refine xt_iload C dX1_exchange_29 rfl ?_
            refine xt_iload_n C dX1_exchange_31 rfl ?_
            refine xt_icmp_geN (tgt := 142) C dX1_exchange_32 (by decide) (by omega) (by omega) (fun c32 => ?_) (fun c32 => ?_)
            · refine xt_iincN (z := 1) (lo' := [_, _, _, _, _, _, _, _, _, _, _]) C dX1_exchange_142 rfl rfl rfl ?_
              refine xt_goto (tgt := 19) C dX1_exchange_145 (by decide) ?_
              have hx9 : x = w := by omega
              subst hx9
              exact xt_fg (by repeat' constructor) (ih1 (y + 1) (by omega)  (by omega))
            · refine xt_aload_n C dX1_exchange_35 rfl ?_
              refine xt_aload_n C dX1_exchange_36 rfl ?_
              refine xt_iload_n C dX1_exchange_37 rfl ?_
              refine xt_cV C mv_X1_leftOf lkX1_60 (xt_ct_rw hlf (ct_leftOf (by exact hP9) ht)) rfl (by decide) (xt_cl1 _ _) rfl (by decide) rfl (Nat.le_of_ble_eq_true rfl) dX1_exchange_38 ?_
              refine xt_iload C dX1_exchange_41 rfl ?_
              refine xt_iaddN C dX1_exchange_43 ?_
              refine xt_aload_n C dX1_exchange_44 rfl ?_
              refine xt_iload_n C dX1_exchange_45 rfl ?_
              refine xt_cV C mv_X1_topOf lkX1_69 (xt_ct_rw htp (ct_topOf (by exact hP9) ht)) rfl (by decide) (xt_cl1 _ _) rfl (by decide) rfl (Nat.le_of_ble_eq_true rfl) dX1_exchange_46 ?_
              refine xt_iload C dX1_exchange_49 rfl ?_
              refine xt_iaddN C dX1_exchange_51 ?_
              refine xt_cV C mv_X1_indexOf lkX1_46 (ct_indexOf (by exact hP9)) rfl (by decide) (xt_cl1 _ _) rfl (by decide) rfl (Nat.le_of_ble_eq_true rfl) dX1_exchange_52 ?_
              refine xt_istore (lo' := [_, _, _, _, _, _, _, _, _, _, _]) C dX1_exchange_55 (Nat.le_of_ble_eq_true rfl) rfl rfl ?_
              refine xt_aload_n C dX1_exchange_57 rfl ?_
              refine xt_aload_n C dX1_exchange_58 rfl ?_
              refine xt_iload_n C dX1_exchange_59 rfl ?_
              refine xt_cV C mv_X1_leftOf lkX1_60 (xt_ct_rw hlf2 (ct_leftOf (by exact hP9) hu)) rfl (by decide) (xt_cl1 _ _) rfl (by decide) rfl (Nat.le_of_ble_eq_true rfl) dX1_exchange_60 ?_
              refine xt_iload C dX1_exchange_63 rfl ?_
              refine xt_iaddN C dX1_exchange_65 ?_
              refine xt_aload_n C dX1_exchange_66 rfl ?_
              refine xt_iload_n C dX1_exchange_67 rfl ?_
              refine xt_cV C mv_X1_topOf lkX1_69 (xt_ct_rw htp2 (ct_topOf (by exact hP9) hu)) rfl (by decide) (xt_cl1 _ _) rfl (by decide) rfl (Nat.le_of_ble_eq_true rfl) dX1_exchange_68 ?_
              refine xt_iload C dX1_exchange_71 rfl ?_
              refine xt_iaddN C dX1_exchange_73 ?_
              refine xt_cV C mv_X1_indexOf lkX1_46 (ct_indexOf (by exact hP9)) rfl (by decide) (xt_cl1 _ _) rfl (by decide) rfl (Nat.le_of_ble_eq_true rfl) dX1_exchange_74 ?_
              refine xt_istore (lo' := [_, _, _, _, _, _, _, _, _, _, _]) C dX1_exchange_77 (Nat.le_of_ble_eq_true rfl) rfl rfl ?_
              refine xt_aload_n C dX1_exchange_79 rfl ?_
              refine xt_get (f := 5) C xt_u1 rfl (by decide) (xt_cl1 _ _) (by decide) lkX1_27 rfl dX1_exchange_80 ?_
              refine xt_iload C dX1_exchange_83 rfl ?_
              refine xt_cSN C ms_X5_at lkX1_34 (ct_at (by decide) (xt_cl2 _) (by decide) (xt_ix (c := c) (r := r) (by omega) (by omega) b2 b4).1 (v := (xt_it (fun x q => xt_xs ((tp + y) * c + (lf + x)) ((tp2 + y) * c + (lf2 + x)) q) x (xt_it (fun y q => xt_it (fun x q => xt_xs ((tp + y) * c + (lf + x)) ((tp2 + y) * c + (lf2 + x)) q) w q) y (S.2.1 2, 0))).1 ((tp + y) * c + (lf + x))) rfl) rfl (by decide) rfl (Nat.le_of_ble_eq_true rfl) dX1_exchange_85 ?_
              refine xt_istore (lo' := [_, _, _, _, _, _, _, _, _, _, _]) C dX1_exchange_88 (Nat.le_of_ble_eq_true rfl) rfl rfl ?_
              refine xt_iload C dX1_exchange_90 rfl ?_
              refine xt_aload_n C dX1_exchange_92 rfl ?_
              refine xt_get (f := 5) C xt_u1 rfl (by decide) (xt_cl1 _ _) (by decide) lkX1_27 rfl dX1_exchange_93 ?_
              refine xt_iload C dX1_exchange_96 rfl ?_
              refine xt_cSN C ms_X5_at lkX1_34 (ct_at (by decide) (xt_cl2 _) (by decide) (xt_ix (c := c) (r := r) (by omega) (by omega) b2 b4).1 (v := (xt_it (fun x q => xt_xs ((tp + y) * c + (lf + x)) ((tp2 + y) * c + (lf2 + x)) q) x (xt_it (fun y q => xt_it (fun x q => xt_xs ((tp + y) * c + (lf + x)) ((tp2 + y) * c + (lf2 + x)) q) w q) y (S.2.1 2, 0))).1 ((tp2 + y) * c + (lf2 + x))) rfl) rfl (by decide) rfl (Nat.le_of_ble_eq_true rfl) dX1_exchange_98 ?_
              refine xt_icmp_eq (tgt := 107) C dX1_exchange_101 (by decide) (fun c101 => ?_) (fun c101 => ?_)
              · refine xt_aload_n C dX1_exchange_107 rfl ?_
                refine xt_get (f := 5) C xt_u1 rfl (by decide) (xt_cl1 _ _) (by decide) lkX1_27 rfl dX1_exchange_108 ?_
                refine xt_iload C dX1_exchange_111 rfl ?_
                refine xt_aload_n C dX1_exchange_113 rfl ?_
                refine xt_get (f := 5) C xt_u1 rfl (by decide) (xt_cl1 _ _) (by decide) lkX1_27 rfl dX1_exchange_114 ?_
                refine xt_iload C dX1_exchange_117 rfl ?_
                refine xt_cSN C ms_X5_at lkX1_34 (ct_at (by decide) (xt_cl2 _) (by decide) (xt_ix (c := c) (r := r) (by omega) (by omega) b2 b4).1 (v := (xt_it (fun x q => xt_xs ((tp + y) * c + (lf + x)) ((tp2 + y) * c + (lf2 + x)) q) x (xt_it (fun y q => xt_it (fun x q => xt_xs ((tp + y) * c + (lf + x)) ((tp2 + y) * c + (lf2 + x)) q) w q) y (S.2.1 2, 0))).1 ((tp2 + y) * c + (lf2 + x))) rfl) rfl (by decide) rfl (Nat.le_of_ble_eq_true rfl) dX1_exchange_119 ?_
                refine xt_cSNn C ms_X5_put lkX1_38 (ct_put (by decide) (xt_cl2 _) (by decide) (xt_ix (c := c) (r := r) (by omega) (by omega) b2 b4).1) rfl (by decide) rfl (Nat.le_of_ble_eq_true rfl) dX1_exchange_122 ?_
                refine xt_aload_n C dX1_exchange_125 rfl ?_
                refine xt_get (f := 5) C xt_u1 rfl (by decide) (xt_cl1 _ _) (by decide) lkX1_27 rfl dX1_exchange_126 ?_
                refine xt_iload C dX1_exchange_129 rfl ?_
                refine xt_iload C dX1_exchange_131 rfl ?_
                refine xt_cSNn C ms_X5_put lkX1_38 (ct_put (by decide) (xt_cl2 _) (by decide) (xt_ix (c := c) (r := r) (by omega) (by omega) b2 b4).1) rfl (by decide) rfl (Nat.le_of_ble_eq_true rfl) dX1_exchange_133 ?_
                refine xt_iincN (z := 1) (lo' := [_, _, _, _, _, _, _, _, _, _, _]) C dX1_exchange_136 rfl rfl rfl ?_
                refine xt_goto (tgt := 29) C dX1_exchange_139 (by decide) ?_
                have h9 := ih2 (x + 1) (by omega)  (by omega)
                first
                | rw [show xt_it (fun x q => xt_xs ((tp + y) * c + (lf + x)) ((tp2 + y) * c + (lf2 + x)) q) (x + 1) (xt_it (fun y q => xt_it (fun x q => xt_xs ((tp + y) * c + (lf + x)) ((tp2 + y) * c + (lf2 + x)) q) w q) y (S.2.1 2, 0)) = xt_xs ((tp + y) * c + (lf + x)) ((tp2 + y) * c + (lf2 + x)) (xt_it (fun x q => xt_xs ((tp + y) * c + (lf + x)) ((tp2 + y) * c + (lf2 + x)) q) x (xt_it (fun y q => xt_it (fun x q => xt_xs ((tp + y) * c + (lf + x)) ((tp2 + y) * c + (lf2 + x)) q) w q) y (S.2.1 2, 0))) from rfl, xt_xs_t c101] at h9
                | rw [show xt_it (fun x q => xt_xs ((tp + y) * c + (lf + x)) ((tp2 + y) * c + (lf2 + x)) q) (x + 1) (xt_it (fun y q => xt_it (fun x q => xt_xs ((tp + y) * c + (lf + x)) ((tp2 + y) * c + (lf2 + x)) q) w q) y (S.2.1 2, 0)) = xt_xs ((tp + y) * c + (lf + x)) ((tp2 + y) * c + (lf2 + x)) (xt_it (fun x q => xt_xs ((tp + y) * c + (lf + x)) ((tp2 + y) * c + (lf2 + x)) q) x (xt_it (fun y q => xt_it (fun x q => xt_xs ((tp + y) * c + (lf + x)) ((tp2 + y) * c + (lf2 + x)) q) w q) y (S.2.1 2, 0))) from rfl, xt_xs_f c101] at h9
                rw [show (xt_sA S 2 (xt_it (fun x q => xt_xs ((tp + y) * c + (lf + x)) ((tp2 + y) * c + (lf2 + x)) q) x (xt_it (fun y q => xt_it (fun x q => xt_xs ((tp + y) * c + (lf + x)) ((tp2 + y) * c + (lf2 + x)) q) w q) y (S.2.1 2, 0))).1).2.1 2 = (xt_it (fun x q => xt_xs ((tp + y) * c + (lf + x)) ((tp2 + y) * c + (lf2 + x)) q) x (xt_it (fun y q => xt_it (fun x q => xt_xs ((tp + y) * c + (lf + x)) ((tp2 + y) * c + (lf2 + x)) q) w q) y (S.2.1 2, 0))).1 from rfl, xt_sA_sA, xt_sA_s, xt_sA_sA]
                exact xt_fg (by repeat' constructor) h9
              · refine xt_iinc (lo' := [_, _, _, _, _, _, _, _, _, _, _]) C dX1_exchange_104 rfl rfl rfl rfl ?_
                refine xt_aload_n C dX1_exchange_107 rfl ?_
                refine xt_get (f := 5) C xt_u1 rfl (by decide) (xt_cl1 _ _) (by decide) lkX1_27 rfl dX1_exchange_108 ?_
                refine xt_iload C dX1_exchange_111 rfl ?_
                refine xt_aload_n C dX1_exchange_113 rfl ?_
                refine xt_get (f := 5) C xt_u1 rfl (by decide) (xt_cl1 _ _) (by decide) lkX1_27 rfl dX1_exchange_114 ?_
                refine xt_iload C dX1_exchange_117 rfl ?_
                refine xt_cSN C ms_X5_at lkX1_34 (ct_at (by decide) (xt_cl2 _) (by decide) (xt_ix (c := c) (r := r) (by omega) (by omega) b2 b4).1 (v := (xt_it (fun x q => xt_xs ((tp + y) * c + (lf + x)) ((tp2 + y) * c + (lf2 + x)) q) x (xt_it (fun y q => xt_it (fun x q => xt_xs ((tp + y) * c + (lf + x)) ((tp2 + y) * c + (lf2 + x)) q) w q) y (S.2.1 2, 0))).1 ((tp2 + y) * c + (lf2 + x))) rfl) rfl (by decide) rfl (Nat.le_of_ble_eq_true rfl) dX1_exchange_119 ?_
                refine xt_cSNn C ms_X5_put lkX1_38 (ct_put (by decide) (xt_cl2 _) (by decide) (xt_ix (c := c) (r := r) (by omega) (by omega) b2 b4).1) rfl (by decide) rfl (Nat.le_of_ble_eq_true rfl) dX1_exchange_122 ?_
                refine xt_aload_n C dX1_exchange_125 rfl ?_
                refine xt_get (f := 5) C xt_u1 rfl (by decide) (xt_cl1 _ _) (by decide) lkX1_27 rfl dX1_exchange_126 ?_
                refine xt_iload C dX1_exchange_129 rfl ?_
                refine xt_iload C dX1_exchange_131 rfl ?_
                refine xt_cSNn C ms_X5_put lkX1_38 (ct_put (by decide) (xt_cl2 _) (by decide) (xt_ix (c := c) (r := r) (by omega) (by omega) b2 b4).1) rfl (by decide) rfl (Nat.le_of_ble_eq_true rfl) dX1_exchange_133 ?_
                refine xt_iincN (z := 1) (lo' := [_, _, _, _, _, _, _, _, _, _, _]) C dX1_exchange_136 rfl rfl rfl ?_
                refine xt_goto (tgt := 29) C dX1_exchange_139 (by decide) ?_
                have h9 := ih2 (x + 1) (by omega)  (by omega)
                first
                | rw [show xt_it (fun x q => xt_xs ((tp + y) * c + (lf + x)) ((tp2 + y) * c + (lf2 + x)) q) (x + 1) (xt_it (fun y q => xt_it (fun x q => xt_xs ((tp + y) * c + (lf + x)) ((tp2 + y) * c + (lf2 + x)) q) w q) y (S.2.1 2, 0)) = xt_xs ((tp + y) * c + (lf + x)) ((tp2 + y) * c + (lf2 + x)) (xt_it (fun x q => xt_xs ((tp + y) * c + (lf + x)) ((tp2 + y) * c + (lf2 + x)) q) x (xt_it (fun y q => xt_it (fun x q => xt_xs ((tp + y) * c + (lf + x)) ((tp2 + y) * c + (lf2 + x)) q) w q) y (S.2.1 2, 0))) from rfl, xt_xs_t c101] at h9
                | rw [show xt_it (fun x q => xt_xs ((tp + y) * c + (lf + x)) ((tp2 + y) * c + (lf2 + x)) q) (x + 1) (xt_it (fun y q => xt_it (fun x q => xt_xs ((tp + y) * c + (lf + x)) ((tp2 + y) * c + (lf2 + x)) q) w q) y (S.2.1 2, 0)) = xt_xs ((tp + y) * c + (lf + x)) ((tp2 + y) * c + (lf2 + x)) (xt_it (fun x q => xt_xs ((tp + y) * c + (lf + x)) ((tp2 + y) * c + (lf2 + x)) q) x (xt_it (fun y q => xt_it (fun x q => xt_xs ((tp + y) * c + (lf + x)) ((tp2 + y) * c + (lf2 + x)) q) w q) y (S.2.1 2, 0))) from rfl, xt_xs_f c101] at h9
                rw [show (xt_sA S 2 (xt_it (fun x q => xt_xs ((tp + y) * c + (lf + x)) ((tp2 + y) * c + (lf2 + x)) q) x (xt_it (fun y q => xt_it (fun x q => xt_xs ((tp + y) * c + (lf + x)) ((tp2 + y) * c + (lf2 + x)) q) w q) y (S.2.1 2, 0))).1).2.1 2 = (xt_it (fun x q => xt_xs ((tp + y) * c + (lf + x)) ((tp2 + y) * c + (lf2 + x)) q) x (xt_it (fun y q => xt_it (fun x q => xt_xs ((tp + y) * c + (lf + x)) ((tp2 + y) * c + (lf2 + x)) q) w q) y (S.2.1 2, 0))).1 from rfl, xt_sA_sA, xt_sA_s, xt_sA_sA]
                exact xt_fg (by repeat' constructor) h9
        exact xt_fg (by repeat' constructor) (in2 (w + 1) 0 (by omega)  (by omega))
  refine xt_aload_n C dX1_exchange_0 rfl ?_
  refine xt_iload_n C dX1_exchange_1 rfl ?_
  refine xt_cV C mv_X1_widthOf lkX1_72 (ct_widthOf (by exact hP9) ht) rfl (by decide) (xt_cl1 _ _) rfl (by decide) rfl (Nat.le_of_ble_eq_true rfl) dX1_exchange_2 ?_
  refine xt_istore_n (lo' := [_, _, _, _, _, _, _, _, _, _, _]) C dX1_exchange_5 (Nat.le_of_ble_eq_true rfl) rfl rfl ?_
  refine xt_aload_n C dX1_exchange_6 rfl ?_
  refine xt_iload_n C dX1_exchange_7 rfl ?_
  refine xt_cV C mv_X1_heightOf lkX1_75 (ct_heightOf (by exact hP9) ht) rfl (by decide) (xt_cl1 _ _) rfl (by decide) rfl (Nat.le_of_ble_eq_true rfl) dX1_exchange_8 ?_
  refine xt_istore (lo' := [_, _, _, _, _, _, _, _, _, _, _]) C dX1_exchange_11 (Nat.le_of_ble_eq_true rfl) rfl rfl ?_
  refine xt_iconst (v := nI 0) C dX1_exchange_13 rfl ?_
  refine xt_istore (lo' := [_, _, _, _, _, _, _, _, _, _, _]) C dX1_exchange_14 (Nat.le_of_ble_eq_true rfl) rfl rfl ?_
  refine xt_iconst (v := nI 0) C dX1_exchange_16 rfl ?_
  refine xt_istore (lo' := [_, _, _, _, _, _, _, _, _, _, _]) C dX1_exchange_17 (Nat.le_of_ble_eq_true rfl) rfl rfl ?_
  rw [hw, hh]
  have h9 := out1 (h + 1) 0 (by omega) (by omega)
  rw [show (xt_it (fun y q => xt_it (fun x q => xt_xs ((tp + y) * c + (lf + x)) ((tp2 + y) * c + (lf2 + x)) q) w q) 0 (S.2.1 2, 0)).1 = S.2.1 2 from rfl, show xt_sA S 2 (S.2.1 2) = S from xt_sA_self] at h9
  exact xt_fg (by repeat' constructor) h9
end XC5
