/-! THE MODEL: swap, soften, tile -/
section XM16
variable {E : xt_Ev} {l : Launch} {S : xt_St}
theorem xt_fl9_x {p p2 : Nat} {g o : Nat → Int32} {q : (Nat → Int32) × Int32} (h : xt_fl9 5 g q.1 o) (h1 : p < 256) (h2 : p2 < 256) : xt_fl9 5 (upd (upd g (5 + p) (q.1 p2)) (5 + p2) (q.1 p)) (xt_xs p p2 q).1 o := xt_fl9_u (xt_fl9_u h h1) h2
theorem xt_put2_un {c lf tp w h y x : Nat} {J f : Nat → Int32} (hw : lf + w ≤ c) (hy : y < h) (hx : x < w) : xt_it (fun x f => upd f ((tp + y) * c + (lf + x)) (J (8 * y + x))) x (xt_it (fun y f => xt_it (fun x f => upd f ((tp + y) * c + (lf + x)) (J (8 * y + x))) w f) y f) ((tp + y) * c + (lf + x)) = f ((tp + y) * c + (lf + x)) := by
  have hi := xt_pp9_i (c := c) (lf := lf) (tp := tp) (w := w) (h := h) hw
  have h1 := (xt_gu_r (pos := xt_pp9 c lf tp) (U := fun y x _ => J (8 * y + x)) (w := w) (y := y) (fun a b z1 z2 q => (hi y a y b hy z1 hy z2 q).2) x (Nat.le_of_lt hx) (xt_it (fun y f => xt_it (fun x f => upd f ((tp + y) * c + (lf + x)) (J (8 * y + x))) w f) y f)).2 ((tp + y) * c + (lf + x)) (fun a z q => by have h9 := (hi y x y a hy hx hy (by omega) q).2; omega)
  have h2 := (xt_gu_g (U := fun y x _ => J (8 * y + x)) hi f y (Nat.le_of_lt hy)).2 ((tp + y) * c + (lf + x)) (fun b a z1 z2 q => by have h9 := (hi y x b a hy hx (by omega) z2 q).1; omega)
  exact h1.trans h2
theorem xt_cl_r {x : Int32} : xt_rI 0 255 (xt_cl x) := by
  unfold xt_rI xt_cl
  have e0 : (nI 0).toInt = 0 := by decide
  have e1 : (nI 255).toInt = 255 := by decide
  by_cases a : x < nI 255
  · rw [if_pos a]
    have a9 := Int32.lt_iff_toInt_lt.mp a
    by_cases b : nI 0 < x
    · rw [if_pos b]
      have b9 := Int32.lt_iff_toInt_lt.mp b
      omega
    · rw [if_neg b, e0]; decide
  · rw [if_neg a, if_pos (by decide), e1]; decide
theorem xt_abs_d {a b : Int32} (ha : xt_rI 0 255 a) (hb : xt_rI 0 255 b) : ∃ m, m < 512 ∧ xt_abs (a - b) = nI m := xt_abs_r (xt_rI_w (xt_rI_sub (by decide) (by decide) ha hb) (by decide) (by decide))
theorem xt_r255 {x : Int32} (h : ∃ m, m ≤ 255 ∧ x = nI m) : xt_rI 0 255 x := by
  obtain ⟨m, hm, rfl⟩ := h
  unfold xt_rI
  rw [nI_toInt (by omega)]
  omega
set_option maxRecDepth 20000 in
set_option maxHeartbeats 2000000 in
theorem ct_mswap {c r sd lv bo : Nat} (hM : xt_Mp S c r sd lv bo) {t : Nat} (ht : t < xt_nt c r sd) {u : Nat} (hU : u < xt_nt c r sd) {v : Nat → Int32} (hvv : ∀ j, j < 256 → xt_mV S j = v j) {kp : Nat} (hu : S.1 49 3 = nI kp) (hk8 : kp ≤ 8) (ew : xt_gw c sd u = (xt_gw c sd t)) (eh : xt_gh c r sd u = (xt_gh c r sd t)) : xt_Ct E l yX6_swap cX6_swap 13 (some Jvm.ClassFile.FieldType.int) 4 81 0 0 [.ref (E.1 49), .int (nI t), .int (nI u)] S (xt_Ep (some (.int (xt_exch c (xt_gl c sd t) (xt_gt c sd t) (xt_gl c sd u) (xt_gt c sd u) (xt_gw c sd t) (xt_gh c r sd t) v).2)) (fun S9 => ∃ T g, xt_mfr (xt_sN S 49 0 (nI 0)) T ∧ S9 = xt_sA (xt_chg T kp) 50 g ∧ xt_fl9 5 g (xt_exch c (xt_gl c sd t) (xt_gt c sd t) (xt_gl c sd u) (xt_gt c sd u) (xt_gw c sd t) (xt_gh c r sd t) v).1 (S.2.1 50))) := by
  refine xt_body (by decide +kernel) (xt_all rfl) (Nat.le_of_ble_eq_true rfl) (fun cx C hl9 => ?_)
  show xt_X E cx _ 0 0 0 [some (.ref (E.1 49)), some (.int (nI t)), some (.int (nI u)), none, none, none, none, none, none, none, none, none, none] [] S
  have hM9 := hM
  obtain ⟨hc, hr, hs, hv, hb, b1, b2, b3, b4, b5, b6, b7⟩ := hM
  have hn := xt_nt_b ⟨b1, b2⟩ ⟨b3, b4⟩ b5
  have hT := xt_tile_b ⟨b1, b2⟩ ⟨b3, b4⟩ b5 ht
  have hdl : (xt_tD c r sd lv t) ≤ 3 := xt_dep_le.2
  have hTu := xt_tile_b ⟨b1, b2⟩ ⟨b3, b4⟩ b5 hU
  refine xt_aload_n C dX6_swap_0 rfl ?_
  refine xt_iconst (v := nI 0) C dX6_swap_1 rfl ?_
  refine xt_put (f := 0) C xt_u6 rfl (by decide) (xt_cl49 _ _) (by decide) tyX6 tyX6_ok nmX6 lkX6_74 rfl (tyX6_ok 0 (by decide)) rfl rfl (Nat.le_of_ble_eq_true rfl) rfl dX6_swap_2 ?_
  refine xt_aload_n C dX6_swap_5 rfl ?_
  refine xt_iload_n C dX6_swap_6 rfl ?_
  refine xt_cV C mv_X6_isTile lkX6_165 (ct_isTile (by exact hM9)) rfl (by decide) (xt_cl49 _ _) rfl (by decide) rfl (Nat.le_of_ble_eq_true rfl) dX6_swap_7 ?_
  refine xt_if_eqB (tgt := 21) C dX6_swap_10 (by decide) (fun c10 => ?_) (fun c10 => ?_)
  · exact absurd ⟨t, ht, rfl⟩ c10
  · refine xt_aload_n C dX6_swap_13 rfl ?_
    refine xt_iload_n C dX6_swap_14 rfl ?_
    refine xt_cV C mv_X6_isTile lkX6_165 (ct_isTile (by exact hM9)) rfl (by decide) (xt_cl49 _ _) rfl (by decide) rfl (Nat.le_of_ble_eq_true rfl) dX6_swap_15 ?_
    refine xt_if_neB (tgt := 27) C dX6_swap_18 (by decide) (fun c18 => ?_) (fun c18 => ?_)
    · refine xt_aload_n C dX6_swap_27 rfl ?_
      refine xt_iload_n C dX6_swap_28 rfl ?_
      refine xt_cVpn C mv_X6_takes lkX6_112 (ct_takes (by exact hM9) hU) rfl (by decide) (xt_cl49 _ _) rfl (by decide) rfl (Nat.le_of_ble_eq_true rfl) dX6_swap_29 (fun S9 hq9 => ?_)
      obtain ⟨hfr, hMu⟩ := hq9
      rename xt_St => T1
      obtain ⟨u1, u2, u3, u4, u5⟩ := id hMu
      refine xt_aload_n C dX6_swap_32 rfl ?_
      refine xt_get (f := 16) C xt_u6 rfl (by decide) (xt_cl49 _ _) (by decide) lkX6_97 (xt_vI (by first | exact u1 | exact m1)) dX6_swap_33 ?_
      refine xt_istore_n (lo' := [_, _, _, _, _, _, _, _, _, _, _, _, _]) C dX6_swap_36 (Nat.le_of_ble_eq_true rfl) rfl rfl ?_
      refine xt_aload_n C dX6_swap_37 rfl ?_
      refine xt_get (f := 17) C xt_u6 rfl (by decide) (xt_cl49 _ _) (by decide) lkX6_100 (xt_vI (by first | exact u2 | exact m2)) dX6_swap_38 ?_
      refine xt_istore (lo' := [_, _, _, _, _, _, _, _, _, _, _, _, _]) C dX6_swap_41 (Nat.le_of_ble_eq_true rfl) rfl rfl ?_
      refine xt_aload_n C dX6_swap_43 rfl ?_
      refine xt_get (f := 19) C xt_u6 rfl (by decide) (xt_cl49 _ _) (by decide) lkX6_38 rfl dX6_swap_44 ?_
      refine xt_iconst (v := nI 0) C dX6_swap_47 rfl ?_
      refine xt_ialdN C (by decide) (xt_cl57 _) (by decide) (by decide) (show T1.2.1 57 0 = nI (xt_gw c sd t) from by rw [(u4 0 (by omega)).1, xt_lo_0, ew]) dX6_swap_48 ?_
      refine xt_istore (lo' := [_, _, _, _, _, _, _, _, _, _, _, _, _]) C dX6_swap_49 (Nat.le_of_ble_eq_true rfl) rfl rfl ?_
      refine xt_aload_n C dX6_swap_51 rfl ?_
      refine xt_get (f := 20) C xt_u6 rfl (by decide) (xt_cl49 _ _) (by decide) lkX6_41 rfl dX6_swap_52 ?_
      refine xt_iconst (v := nI 0) C dX6_swap_55 rfl ?_
      refine xt_ialdN C (by decide) (xt_cl58 _) (by decide) (by decide) (show T1.2.1 58 0 = nI (xt_gh c r sd t) from by rw [(u4 0 (by omega)).2, xt_lo_0, eh]) dX6_swap_56 ?_
      refine xt_istore (lo' := [_, _, _, _, _, _, _, _, _, _, _, _, _]) C dX6_swap_57 (Nat.le_of_ble_eq_true rfl) rfl rfl ?_
      refine xt_aload_n C dX6_swap_59 rfl ?_
      refine xt_iload_n C dX6_swap_60 rfl ?_
      refine xt_cVpn C mv_X6_takes lkX6_112 (ct_takes (by exact xt_mfr_Mp hfr hM9) ht) rfl (by decide) (xt_cl49 _ _) rfl (by decide) rfl (Nat.le_of_ble_eq_true rfl) dX6_swap_61 (fun S9 hq9 => ?_)
      obtain ⟨hfr2, hMt⟩ := hq9
      rename xt_St => T2
      obtain ⟨m1, m2, m3, m4, g1, g2, g3, g4, g5, g6, g7⟩ := id hMt
      have hfr3 := xt_mfr_tr hfr hfr2
      refine xt_aload_n C dX6_swap_64 rfl ?_
      refine xt_get (f := 19) C xt_u6 rfl (by decide) (xt_cl49 _ _) (by decide) lkX6_38 rfl dX6_swap_65 ?_
      refine xt_iconst (v := nI 0) C dX6_swap_68 rfl ?_
      refine xt_ialdN C (by decide) (xt_cl57 _) (by decide) (by decide) (show T2.2.1 57 0 = nI (xt_gw c sd t) from by rw [(m4 0 (by omega)).1, xt_lo_0]) dX6_swap_69 ?_
      refine xt_iload C dX6_swap_70 rfl ?_
      refine xt_icmp_neN (tgt := 86) C dX6_swap_72 (by decide) (by omega) (by omega) (fun c72 => ?_) (fun c72 => ?_)
      · exact absurd rfl c72
      · refine xt_aload_n C dX6_swap_75 rfl ?_
        refine xt_get (f := 20) C xt_u6 rfl (by decide) (xt_cl49 _ _) (by decide) lkX6_41 rfl dX6_swap_76 ?_
        refine xt_iconst (v := nI 0) C dX6_swap_79 rfl ?_
        refine xt_ialdN C (by decide) (xt_cl58 _) (by decide) (by decide) (show T2.2.1 58 0 = nI (xt_gh c r sd t) from by rw [(m4 0 (by omega)).2, xt_lo_0]) dX6_swap_80 ?_
        refine xt_iload C dX6_swap_81 rfl ?_
        refine xt_icmp_eqN (tgt := 94) C dX6_swap_83 (by decide) (by omega) (by omega) (fun c83 => ?_) (fun c83 => ?_)
        · refine xt_aload_n C dX6_swap_94 rfl ?_
          refine xt_cVn C mv_X6_changes lkX6_145 (ct_changes ((hfr3.1 49 3 (by omega)).trans (by exact hu)) hk8) rfl (by decide) (xt_cl49 _ _) rfl (by decide) rfl (Nat.le_of_ble_eq_true rfl) dX6_swap_95 ?_
          refine xt_iconst (v := nI 0) C dX6_swap_98 rfl ?_
          refine xt_istore (lo' := [_, _, _, _, _, _, _, _, _, _, _, _, _]) C dX6_swap_99 (Nat.le_of_ble_eq_true rfl) rfl rfl ?_
          refine xt_iconst (v := nI 0) C dX6_swap_101 rfl ?_
          refine xt_istore (lo' := [_, _, _, _, _, _, _, _, _, _, _, _, _]) C dX6_swap_102 (Nat.le_of_ble_eq_true rfl) rfl rfl ?_
          have out1 : ∀ (d1 y : Nat) (g : Nat → Int32), y ≤ (xt_gh c r sd t) → (xt_fl9 5 g (xt_it (fun y q => xt_it (fun x q => xt_xs (((xt_gt c sd t) + y) * c + ((xt_gl c sd t) + x)) ((xt_gt c sd u + y) * c + (xt_gl c sd u + x)) q) (xt_gw c sd t) q) y (v, 0)).1 (S.2.1 50)) → (xt_gh c r sd t) + 1 ≤ y + d1 → xt_X E cx (xt_ZM E cx 0 0 (xt_Ep (some (.int (xt_exch c (xt_gl c sd t) (xt_gt c sd t) (xt_gl c sd u) (xt_gt c sd u) (xt_gw c sd t) (xt_gh c r sd t) v).2)) (fun S9 => ∃ T g, xt_mfr (xt_sN S 49 0 (nI 0)) T ∧ S9 = xt_sA (xt_chg T kp) 50 g ∧ xt_fl9 5 g (xt_exch c (xt_gl c sd t) (xt_gt c sd t) (xt_gl c sd u) (xt_gt c sd u) (xt_gw c sd t) (xt_gh c r sd t) v).1 (S.2.1 50)))) 0 0 104 [some (.ref (E.1 49)), some (.int (nI t)), some (.int (nI u)), some (.int (nI (xt_gl c sd u))), some (.int (nI (xt_gt c sd u))), some (.int (nI (xt_gw c sd t))), some (.int (nI (xt_gh c r sd t))), some (.int (xt_it (fun y q => xt_it (fun x q => xt_xs (((xt_gt c sd t) + y) * c + ((xt_gl c sd t) + x)) ((xt_gt c sd u + y) * c + (xt_gl c sd u + x)) q) (xt_gw c sd t) q) y (v, 0)).2), some (.int (nI y)), none, none, none, none] [] (xt_sA (xt_chg T2 kp) 50 g) := by
            intro d1
            induction d1 with
            | zero => intro y g h0y hg h1y; exact absurd h1y (by omega)
            | succ d1 ih1 =>
              intro y g h0y hg h1y
              have hMg : xt_Mp (xt_sA (xt_chg T2 kp) 50 g) c r sd lv bo := xt_fl9_M (by decide) hg hM9
              refine xt_iload C dX6_swap_104 rfl ?_
              refine xt_iload C dX6_swap_106 rfl ?_
              refine xt_icmp_geN (tgt := 223) C dX6_swap_108 (by decide) (by omega) (by omega) (fun c108 => ?_) (fun c108 => ?_)
              · refine xt_iload C dX6_swap_223 rfl ?_
                exact xt_iret C dX6_swap_225 ⟨by decide, by decide⟩ ⟨by rw [show y = (xt_gh c r sd t) by omega]; rfl, T2, g, hfr3, rfl, by rw [show y = (xt_gh c r sd t) by omega] at hg; exact hg⟩
              · refine xt_iconst (v := nI 0) C dX6_swap_111 rfl ?_
                refine xt_istore (lo' := [_, _, _, _, _, _, _, _, _, _, _, _, _]) C dX6_swap_112 (Nat.le_of_ble_eq_true rfl) rfl rfl ?_
                have in2 : ∀ (d2 x : Nat) (g : Nat → Int32), x ≤ (xt_gw c sd t) → (xt_fl9 5 g (xt_it (fun x q => xt_xs (((xt_gt c sd t) + y) * c + ((xt_gl c sd t) + x)) ((xt_gt c sd u + y) * c + (xt_gl c sd u + x)) q) x (xt_it (fun y q => xt_it (fun x q => xt_xs (((xt_gt c sd t) + y) * c + ((xt_gl c sd t) + x)) ((xt_gt c sd u + y) * c + (xt_gl c sd u + x)) q) (xt_gw c sd t) q) y (v, 0))).1 (S.2.1 50)) → (xt_gw c sd t) + 1 ≤ x + d2 → xt_X E cx (xt_ZM E cx 0 0 (xt_Ep (some (.int (xt_exch c (xt_gl c sd t) (xt_gt c sd t) (xt_gl c sd u) (xt_gt c sd u) (xt_gw c sd t) (xt_gh c r sd t) v).2)) (fun S9 => ∃ T g, xt_mfr (xt_sN S 49 0 (nI 0)) T ∧ S9 = xt_sA (xt_chg T kp) 50 g ∧ xt_fl9 5 g (xt_exch c (xt_gl c sd t) (xt_gt c sd t) (xt_gl c sd u) (xt_gt c sd u) (xt_gw c sd t) (xt_gh c r sd t) v).1 (S.2.1 50)))) 0 0 114 [some (.ref (E.1 49)), some (.int (nI t)), some (.int (nI u)), some (.int (nI (xt_gl c sd u))), some (.int (nI (xt_gt c sd u))), some (.int (nI (xt_gw c sd t))), some (.int (nI (xt_gh c r sd t))), some (.int (xt_it (fun x q => xt_xs (((xt_gt c sd t) + y) * c + ((xt_gl c sd t) + x)) ((xt_gt c sd u + y) * c + (xt_gl c sd u + x)) q) x (xt_it (fun y q => xt_it (fun x q => xt_xs (((xt_gt c sd t) + y) * c + ((xt_gl c sd t) + x)) ((xt_gt c sd u + y) * c + (xt_gl c sd u + x)) q) (xt_gw c sd t) q) y (v, 0))).2), some (.int (nI y)), some (.int (nI x)), none, none, none] [] (xt_sA (xt_chg T2 kp) 50 g) := by
                  intro d2
                  induction d2 with
                  | zero => intro x g h0x hg h1x; exact absurd h1x (by omega)
                  | succ d2 ih2 =>
                    intro x g h0x hg h1x
                    have hMg : xt_Mp (xt_sA (xt_chg T2 kp) 50 g) c r sd lv bo := xt_fl9_M (by decide) hg hM9
                    refine xt_iload C dX6_swap_114 rfl ?_
                    refine xt_iload C dX6_swap_116 rfl ?_
                    refine xt_icmp_geN (tgt := 217) C dX6_swap_118 (by decide) (by omega) (by omega) (fun c118 => ?_) (fun c118 => ?_)
                    · refine xt_iincN (z := 1) (lo' := [_, _, _, _, _, _, _, _, _, _, _, _, _]) C dX6_swap_217 rfl rfl rfl ?_
                      refine xt_goto (tgt := 104) C dX6_swap_220 (by decide) ?_
                      have hx9 : x = (xt_gw c sd t) := by omega
                      subst hx9
                      exact xt_fg (by repeat' constructor) (ih1 (y + 1) g (by omega) hg (by omega))
                    · have hix := (xt_ix (c := c) (r := r) (x := (xt_gl c sd t) + x) (y := (xt_gt c sd t) + y) (by omega) (by omega) b2 b4).1
                      have hiu := (xt_ix (c := c) (r := r) (x := xt_gl c sd u + x) (y := xt_gt c sd u + y) (by omega) (by omega) b2 b4).1
                      refine xt_iconst (v := nI 5) C dX6_swap_121 rfl ?_
                      refine xt_aload_n C dX6_swap_122 rfl ?_
                      refine xt_cV C mv_X6_columns lkX6_77 (ct_mcol hMg) rfl (by decide) (xt_cl49 _ _) rfl (by decide) rfl (Nat.le_of_ble_eq_true rfl) dX6_swap_123 ?_
                      refine xt_aload_n C dX6_swap_126 rfl ?_
                      refine xt_get (f := 17) C xt_u6 rfl (by decide) (xt_cl49 _ _) (by decide) lkX6_100 (xt_vI (by first | exact u2 | exact m2)) dX6_swap_127 ?_
                      refine xt_iload C dX6_swap_130 rfl ?_
                      refine xt_iaddN C dX6_swap_132 ?_
                      refine xt_imulN C dX6_swap_133 ?_
                      refine xt_iaddN C dX6_swap_134 ?_
                      refine xt_aload_n C dX6_swap_135 rfl ?_
                      refine xt_get (f := 16) C xt_u6 rfl (by decide) (xt_cl49 _ _) (by decide) lkX6_97 (xt_vI (by first | exact u1 | exact m1)) dX6_swap_136 ?_
                      refine xt_iaddN C dX6_swap_139 ?_
                      refine xt_iload C dX6_swap_140 rfl ?_
                      refine xt_iaddN C dX6_swap_142 ?_
                      rw [show 5 + c * ((xt_gt c sd t) + y) + (xt_gl c sd t) + x = 5 + (((xt_gt c sd t) + y) * c + ((xt_gl c sd t) + x)) by rw [Nat.mul_comm ((xt_gt c sd t) + y) c]; omega]
                      refine xt_istore (lo' := [_, _, _, _, _, _, _, _, _, _, _, _, _]) C dX6_swap_143 (Nat.le_of_ble_eq_true rfl) rfl rfl ?_
                      refine xt_iconst (v := nI 5) C dX6_swap_145 rfl ?_
                      refine xt_aload_n C dX6_swap_146 rfl ?_
                      refine xt_cV C mv_X6_columns lkX6_77 (ct_mcol hMg) rfl (by decide) (xt_cl49 _ _) rfl (by decide) rfl (Nat.le_of_ble_eq_true rfl) dX6_swap_147 ?_
                      refine xt_iload C dX6_swap_150 rfl ?_
                      refine xt_iload C dX6_swap_152 rfl ?_
                      refine xt_iaddN C dX6_swap_154 ?_
                      refine xt_imulN C dX6_swap_155 ?_
                      refine xt_iaddN C dX6_swap_156 ?_
                      refine xt_iload_n C dX6_swap_157 rfl ?_
                      refine xt_iaddN C dX6_swap_158 ?_
                      refine xt_iload C dX6_swap_159 rfl ?_
                      refine xt_iaddN C dX6_swap_161 ?_
                      rw [show 5 + c * (xt_gt c sd u + y) + xt_gl c sd u + x = 5 + ((xt_gt c sd u + y) * c + (xt_gl c sd u + x)) by rw [Nat.mul_comm (xt_gt c sd u + y) c]; omega]
                      refine xt_istore (lo' := [_, _, _, _, _, _, _, _, _, _, _, _, _]) C dX6_swap_162 (Nat.le_of_ble_eq_true rfl) rfl rfl ?_
                      refine xt_aload_n C dX6_swap_164 rfl ?_
                      refine xt_get (f := 1) C xt_u6 rfl (by decide) (xt_cl49 _ _) (by decide) lkX6_9 rfl dX6_swap_165 ?_
                      refine xt_iload C dX6_swap_168 rfl ?_
                      refine xt_ialdN C (by decide) (xt_cl50 _) (by omega) (by decide) (show (xt_sA (xt_chg T2 kp) 50 g).2.1 50 (5 + (((xt_gt c sd t) + y) * c + ((xt_gl c sd t) + x))) = (xt_it (fun x q => xt_xs (((xt_gt c sd t) + y) * c + ((xt_gl c sd t) + x)) ((xt_gt c sd u + y) * c + (xt_gl c sd u + x)) q) x (xt_it (fun y q => xt_it (fun x q => xt_xs (((xt_gt c sd t) + y) * c + ((xt_gl c sd t) + x)) ((xt_gt c sd u + y) * c + (xt_gl c sd u + x)) q) (xt_gw c sd t) q) y (v, 0))).1 (((xt_gt c sd t) + y) * c + ((xt_gl c sd t) + x)) from by rw [xt_sA_s]; exact hg.1 _ hix) dX6_swap_170 ?_
                      refine xt_istore (lo' := [_, _, _, _, _, _, _, _, _, _, _, _, _]) C dX6_swap_171 (Nat.le_of_ble_eq_true rfl) rfl rfl ?_
                      refine xt_iload C dX6_swap_173 rfl ?_
                      refine xt_aload_n C dX6_swap_175 rfl ?_
                      refine xt_get (f := 1) C xt_u6 rfl (by decide) (xt_cl49 _ _) (by decide) lkX6_9 rfl dX6_swap_176 ?_
                      refine xt_iload C dX6_swap_179 rfl ?_
                      refine xt_ialdN C (by decide) (xt_cl50 _) (by omega) (by decide) (show (xt_sA (xt_chg T2 kp) 50 g).2.1 50 (5 + ((xt_gt c sd u + y) * c + (xt_gl c sd u + x))) = (xt_it (fun x q => xt_xs (((xt_gt c sd t) + y) * c + ((xt_gl c sd t) + x)) ((xt_gt c sd u + y) * c + (xt_gl c sd u + x)) q) x (xt_it (fun y q => xt_it (fun x q => xt_xs (((xt_gt c sd t) + y) * c + ((xt_gl c sd t) + x)) ((xt_gt c sd u + y) * c + (xt_gl c sd u + x)) q) (xt_gw c sd t) q) y (v, 0))).1 ((xt_gt c sd u + y) * c + (xt_gl c sd u + x)) from by rw [xt_sA_s]; exact hg.1 _ hiu) dX6_swap_181 ?_
                      refine xt_icmp_eq (tgt := 188) C dX6_swap_182 (by decide) (fun c182 => ?_) (fun c182 => ?_)
                      · refine xt_aload_n C dX6_swap_188 rfl ?_
                        refine xt_get (f := 1) C xt_u6 rfl (by decide) (xt_cl49 _ _) (by decide) lkX6_9 rfl dX6_swap_189 ?_
                        refine xt_iload C dX6_swap_192 rfl ?_
                        refine xt_aload_n C dX6_swap_194 rfl ?_
                        refine xt_get (f := 1) C xt_u6 rfl (by decide) (xt_cl49 _ _) (by decide) lkX6_9 rfl dX6_swap_195 ?_
                        refine xt_iload C dX6_swap_198 rfl ?_
                        refine xt_ialdN C (by decide) (xt_cl50 _) (by omega) (by decide) (show (xt_sA (xt_chg T2 kp) 50 g).2.1 50 (5 + ((xt_gt c sd u + y) * c + (xt_gl c sd u + x))) = (xt_it (fun x q => xt_xs (((xt_gt c sd t) + y) * c + ((xt_gl c sd t) + x)) ((xt_gt c sd u + y) * c + (xt_gl c sd u + x)) q) x (xt_it (fun y q => xt_it (fun x q => xt_xs (((xt_gt c sd t) + y) * c + ((xt_gl c sd t) + x)) ((xt_gt c sd u + y) * c + (xt_gl c sd u + x)) q) (xt_gw c sd t) q) y (v, 0))).1 ((xt_gt c sd u + y) * c + (xt_gl c sd u + x)) from by rw [xt_sA_s]; exact hg.1 _ hiu) dX6_swap_200 ?_
                        refine xt_iastN C (by decide) (xt_cl50 _) (by omega) (by decide) dX6_swap_201 ?_
                        rw [xt_sA_s, xt_sA_sA]
                        refine xt_aload_n C dX6_swap_202 rfl ?_
                        refine xt_get (f := 1) C xt_u6 rfl (by decide) (xt_cl49 _ _) (by decide) lkX6_9 rfl dX6_swap_203 ?_
                        refine xt_iload C dX6_swap_206 rfl ?_
                        refine xt_iload C dX6_swap_208 rfl ?_
                        refine xt_iastN C (by decide) (xt_cl50 _) (by omega) (by decide) dX6_swap_210 ?_
                        rw [xt_sA_s, xt_sA_sA]
                        refine xt_iincN (z := 1) (lo' := [_, _, _, _, _, _, _, _, _, _, _, _, _]) C dX6_swap_211 rfl rfl rfl ?_
                        refine xt_goto (tgt := 114) C dX6_swap_214 (by decide) ?_
                        have h9 := ih2 (x + 1) _ (by omega) (xt_fl9_x (p := (((xt_gt c sd t) + y) * c + ((xt_gl c sd t) + x))) (p2 := ((xt_gt c sd u + y) * c + (xt_gl c sd u + x))) hg hix hiu) (by omega)
                        rw [show xt_it (fun x q => xt_xs (((xt_gt c sd t) + y) * c + ((xt_gl c sd t) + x)) ((xt_gt c sd u + y) * c + (xt_gl c sd u + x)) q) (x + 1) (xt_it (fun y q => xt_it (fun x q => xt_xs (((xt_gt c sd t) + y) * c + ((xt_gl c sd t) + x)) ((xt_gt c sd u + y) * c + (xt_gl c sd u + x)) q) (xt_gw c sd t) q) y (v, 0)) = xt_xs (((xt_gt c sd t) + y) * c + ((xt_gl c sd t) + x)) ((xt_gt c sd u + y) * c + (xt_gl c sd u + x)) (xt_it (fun x q => xt_xs (((xt_gt c sd t) + y) * c + ((xt_gl c sd t) + x)) ((xt_gt c sd u + y) * c + (xt_gl c sd u + x)) q) x (xt_it (fun y q => xt_it (fun x q => xt_xs (((xt_gt c sd t) + y) * c + ((xt_gl c sd t) + x)) ((xt_gt c sd u + y) * c + (xt_gl c sd u + x)) q) (xt_gw c sd t) q) y (v, 0))) from rfl] at h9
                        first
                        | rw [xt_xs_t c182] at h9
                        | rw [xt_xs_f c182] at h9
                        exact xt_fg (by repeat' constructor) h9
                      · refine xt_iinc (lo' := [_, _, _, _, _, _, _, _, _, _, _, _, _]) C dX6_swap_185 rfl rfl rfl rfl ?_
                        refine xt_aload_n C dX6_swap_188 rfl ?_
                        refine xt_get (f := 1) C xt_u6 rfl (by decide) (xt_cl49 _ _) (by decide) lkX6_9 rfl dX6_swap_189 ?_
                        refine xt_iload C dX6_swap_192 rfl ?_
                        refine xt_aload_n C dX6_swap_194 rfl ?_
                        refine xt_get (f := 1) C xt_u6 rfl (by decide) (xt_cl49 _ _) (by decide) lkX6_9 rfl dX6_swap_195 ?_
                        refine xt_iload C dX6_swap_198 rfl ?_
                        refine xt_ialdN C (by decide) (xt_cl50 _) (by omega) (by decide) (show (xt_sA (xt_chg T2 kp) 50 g).2.1 50 (5 + ((xt_gt c sd u + y) * c + (xt_gl c sd u + x))) = (xt_it (fun x q => xt_xs (((xt_gt c sd t) + y) * c + ((xt_gl c sd t) + x)) ((xt_gt c sd u + y) * c + (xt_gl c sd u + x)) q) x (xt_it (fun y q => xt_it (fun x q => xt_xs (((xt_gt c sd t) + y) * c + ((xt_gl c sd t) + x)) ((xt_gt c sd u + y) * c + (xt_gl c sd u + x)) q) (xt_gw c sd t) q) y (v, 0))).1 ((xt_gt c sd u + y) * c + (xt_gl c sd u + x)) from by rw [xt_sA_s]; exact hg.1 _ hiu) dX6_swap_200 ?_
                        refine xt_iastN C (by decide) (xt_cl50 _) (by omega) (by decide) dX6_swap_201 ?_
                        rw [xt_sA_s, xt_sA_sA]
                        refine xt_aload_n C dX6_swap_202 rfl ?_
                        refine xt_get (f := 1) C xt_u6 rfl (by decide) (xt_cl49 _ _) (by decide) lkX6_9 rfl dX6_swap_203 ?_
                        refine xt_iload C dX6_swap_206 rfl ?_
                        refine xt_iload C dX6_swap_208 rfl ?_
                        refine xt_iastN C (by decide) (xt_cl50 _) (by omega) (by decide) dX6_swap_210 ?_
                        rw [xt_sA_s, xt_sA_sA]
                        refine xt_iincN (z := 1) (lo' := [_, _, _, _, _, _, _, _, _, _, _, _, _]) C dX6_swap_211 rfl rfl rfl ?_
                        refine xt_goto (tgt := 114) C dX6_swap_214 (by decide) ?_
                        have h9 := ih2 (x + 1) _ (by omega) (xt_fl9_x (p := (((xt_gt c sd t) + y) * c + ((xt_gl c sd t) + x))) (p2 := ((xt_gt c sd u + y) * c + (xt_gl c sd u + x))) hg hix hiu) (by omega)
                        rw [show xt_it (fun x q => xt_xs (((xt_gt c sd t) + y) * c + ((xt_gl c sd t) + x)) ((xt_gt c sd u + y) * c + (xt_gl c sd u + x)) q) (x + 1) (xt_it (fun y q => xt_it (fun x q => xt_xs (((xt_gt c sd t) + y) * c + ((xt_gl c sd t) + x)) ((xt_gt c sd u + y) * c + (xt_gl c sd u + x)) q) (xt_gw c sd t) q) y (v, 0)) = xt_xs (((xt_gt c sd t) + y) * c + ((xt_gl c sd t) + x)) ((xt_gt c sd u + y) * c + (xt_gl c sd u + x)) (xt_it (fun x q => xt_xs (((xt_gt c sd t) + y) * c + ((xt_gl c sd t) + x)) ((xt_gt c sd u + y) * c + (xt_gl c sd u + x)) q) x (xt_it (fun y q => xt_it (fun x q => xt_xs (((xt_gt c sd t) + y) * c + ((xt_gl c sd t) + x)) ((xt_gt c sd u + y) * c + (xt_gl c sd u + x)) q) (xt_gw c sd t) q) y (v, 0))) from rfl] at h9
                        first
                        | rw [xt_xs_t c182] at h9
                        | rw [xt_xs_f c182] at h9
                        exact xt_fg (by repeat' constructor) h9
                exact xt_fg (by repeat' constructor) (in2 ((xt_gw c sd t) + 1) 0 g (by omega) hg (by omega))
          have e50 : (xt_chg T2 kp).2.1 50 = S.2.1 50 := (xt_sA_n (by decide)).trans (hfr3.2.1 50 (by omega))
          have h9 := out1 ((xt_gh c r sd t) + 1) 0 ((xt_chg T2 kp).2.1 50) (by omega) (by rw [e50]; exact ⟨hvv, fun _ _ => rfl⟩) (by omega)
          rw [xt_sA_self] at h9
          exact xt_fg (by repeat' constructor) h9
        · exact absurd rfl c83
    · exact absurd ⟨u, hU, rfl⟩ c18
set_option maxRecDepth 20000 in
set_option maxHeartbeats 2000000 in
theorem ct_mswap_b2 {c r sd lv bo : Nat} (hM : xt_Mp S c r sd lv bo) {t : Nat} (ht : t < xt_nt c r sd) {u : Nat} (hU : u < xt_nt c r sd) (hd : ¬ (xt_gw c sd u = (xt_gw c sd t) ∧ xt_gh c r sd u = (xt_gh c r sd t))) : xt_Ct E l yX6_swap cX6_swap 13 (some Jvm.ClassFile.FieldType.int) 4 81 0 0 [.ref (E.1 49), .int (nI t), .int (nI u)] S (xt_Ep (some (.int (nI 0))) (fun S9 => ∃ T, xt_mfr (xt_sN S 49 0 (nI 0)) T ∧ S9 = xt_sN (xt_sN (xt_sN T 49 11 (nI 6)) 49 12 (nI 0)) 49 0 (nI 2))) := by
  refine xt_body (by decide +kernel) (xt_all rfl) (Nat.le_of_ble_eq_true rfl) (fun cx C hl9 => ?_)
  show xt_X E cx _ 0 0 0 [some (.ref (E.1 49)), some (.int (nI t)), some (.int (nI u)), none, none, none, none, none, none, none, none, none, none] [] S
  have hM9 := hM
  obtain ⟨hc, hr, hs, hv, hb, b1, b2, b3, b4, b5, b6, b7⟩ := hM
  have hn := xt_nt_b ⟨b1, b2⟩ ⟨b3, b4⟩ b5
  have hT := xt_tile_b ⟨b1, b2⟩ ⟨b3, b4⟩ b5 ht
  have hdl : (xt_tD c r sd lv t) ≤ 3 := xt_dep_le.2
  have hTu := xt_tile_b ⟨b1, b2⟩ ⟨b3, b4⟩ b5 hU
  refine xt_aload_n C dX6_swap_0 rfl ?_
  refine xt_iconst (v := nI 0) C dX6_swap_1 rfl ?_
  refine xt_put (f := 0) C xt_u6 rfl (by decide) (xt_cl49 _ _) (by decide) tyX6 tyX6_ok nmX6 lkX6_74 rfl (tyX6_ok 0 (by decide)) rfl rfl (Nat.le_of_ble_eq_true rfl) rfl dX6_swap_2 ?_
  refine xt_aload_n C dX6_swap_5 rfl ?_
  refine xt_iload_n C dX6_swap_6 rfl ?_
  refine xt_cV C mv_X6_isTile lkX6_165 (ct_isTile (by exact hM9)) rfl (by decide) (xt_cl49 _ _) rfl (by decide) rfl (Nat.le_of_ble_eq_true rfl) dX6_swap_7 ?_
  refine xt_if_eqB (tgt := 21) C dX6_swap_10 (by decide) (fun c10 => ?_) (fun c10 => ?_)
  · exact absurd ⟨t, ht, rfl⟩ c10
  · refine xt_aload_n C dX6_swap_13 rfl ?_
    refine xt_iload_n C dX6_swap_14 rfl ?_
    refine xt_cV C mv_X6_isTile lkX6_165 (ct_isTile (by exact hM9)) rfl (by decide) (xt_cl49 _ _) rfl (by decide) rfl (Nat.le_of_ble_eq_true rfl) dX6_swap_15 ?_
    refine xt_if_neB (tgt := 27) C dX6_swap_18 (by decide) (fun c18 => ?_) (fun c18 => ?_)
    · refine xt_aload_n C dX6_swap_27 rfl ?_
      refine xt_iload_n C dX6_swap_28 rfl ?_
      refine xt_cVpn C mv_X6_takes lkX6_112 (ct_takes (by exact hM9) hU) rfl (by decide) (xt_cl49 _ _) rfl (by decide) rfl (Nat.le_of_ble_eq_true rfl) dX6_swap_29 (fun S9 hq9 => ?_)
      obtain ⟨hfr, hMu⟩ := hq9
      rename xt_St => T1
      obtain ⟨u1, u2, u3, u4, u5⟩ := id hMu
      refine xt_aload_n C dX6_swap_32 rfl ?_
      refine xt_get (f := 16) C xt_u6 rfl (by decide) (xt_cl49 _ _) (by decide) lkX6_97 (xt_vI (by first | exact u1 | exact m1)) dX6_swap_33 ?_
      refine xt_istore_n (lo' := [_, _, _, _, _, _, _, _, _, _, _, _, _]) C dX6_swap_36 (Nat.le_of_ble_eq_true rfl) rfl rfl ?_
      refine xt_aload_n C dX6_swap_37 rfl ?_
      refine xt_get (f := 17) C xt_u6 rfl (by decide) (xt_cl49 _ _) (by decide) lkX6_100 (xt_vI (by first | exact u2 | exact m2)) dX6_swap_38 ?_
      refine xt_istore (lo' := [_, _, _, _, _, _, _, _, _, _, _, _, _]) C dX6_swap_41 (Nat.le_of_ble_eq_true rfl) rfl rfl ?_
      refine xt_aload_n C dX6_swap_43 rfl ?_
      refine xt_get (f := 19) C xt_u6 rfl (by decide) (xt_cl49 _ _) (by decide) lkX6_38 rfl dX6_swap_44 ?_
      refine xt_iconst (v := nI 0) C dX6_swap_47 rfl ?_
      refine xt_ialdN C (by decide) (xt_cl57 _) (by decide) (by decide) (show T1.2.1 57 0 = nI (xt_gw c sd u) from by rw [(u4 0 (by omega)).1, xt_lo_0]) dX6_swap_48 ?_
      refine xt_istore (lo' := [_, _, _, _, _, _, _, _, _, _, _, _, _]) C dX6_swap_49 (Nat.le_of_ble_eq_true rfl) rfl rfl ?_
      refine xt_aload_n C dX6_swap_51 rfl ?_
      refine xt_get (f := 20) C xt_u6 rfl (by decide) (xt_cl49 _ _) (by decide) lkX6_41 rfl dX6_swap_52 ?_
      refine xt_iconst (v := nI 0) C dX6_swap_55 rfl ?_
      refine xt_ialdN C (by decide) (xt_cl58 _) (by decide) (by decide) (show T1.2.1 58 0 = nI (xt_gh c r sd u) from by rw [(u4 0 (by omega)).2, xt_lo_0]) dX6_swap_56 ?_
      refine xt_istore (lo' := [_, _, _, _, _, _, _, _, _, _, _, _, _]) C dX6_swap_57 (Nat.le_of_ble_eq_true rfl) rfl rfl ?_
      refine xt_aload_n C dX6_swap_59 rfl ?_
      refine xt_iload_n C dX6_swap_60 rfl ?_
      refine xt_cVpn C mv_X6_takes lkX6_112 (ct_takes (by exact xt_mfr_Mp hfr hM9) ht) rfl (by decide) (xt_cl49 _ _) rfl (by decide) rfl (Nat.le_of_ble_eq_true rfl) dX6_swap_61 (fun S9 hq9 => ?_)
      obtain ⟨hfr2, hMt⟩ := hq9
      rename xt_St => T2
      obtain ⟨m1, m2, m3, m4, g1, g2, g3, g4, g5, g6, g7⟩ := id hMt
      have hfr3 := xt_mfr_tr hfr hfr2
      refine xt_aload_n C dX6_swap_64 rfl ?_
      refine xt_get (f := 19) C xt_u6 rfl (by decide) (xt_cl49 _ _) (by decide) lkX6_38 rfl dX6_swap_65 ?_
      refine xt_iconst (v := nI 0) C dX6_swap_68 rfl ?_
      refine xt_ialdN C (by decide) (xt_cl57 _) (by decide) (by decide) (show T2.2.1 57 0 = nI (xt_gw c sd t) from by rw [(m4 0 (by omega)).1, xt_lo_0]) dX6_swap_69 ?_
      refine xt_iload C dX6_swap_70 rfl ?_
      refine xt_icmp_neN (tgt := 86) C dX6_swap_72 (by decide) (by omega) (by omega) (fun c72 => ?_) (fun c72 => ?_)
      · refine xt_aload_n C dX6_swap_86 rfl ?_
        refine xt_bipush (v := nI 6) C dX6_swap_87 (by decide) ?_
        refine xt_iconst (v := nI 0) C dX6_swap_89 rfl ?_
        refine xt_cV C mv_X6_refuses lkX6_178 (ct_mrefuses (by decide)) rfl (by decide) (xt_cl49 _ _) rfl (by decide) rfl (Nat.le_of_ble_eq_true rfl) dX6_swap_90 ?_
        exact xt_iret C dX6_swap_93 ⟨by decide, by decide⟩ ⟨rfl, T2, hfr3, rfl⟩
      · refine xt_aload_n C dX6_swap_75 rfl ?_
        refine xt_get (f := 20) C xt_u6 rfl (by decide) (xt_cl49 _ _) (by decide) lkX6_41 rfl dX6_swap_76 ?_
        refine xt_iconst (v := nI 0) C dX6_swap_79 rfl ?_
        refine xt_ialdN C (by decide) (xt_cl58 _) (by decide) (by decide) (show T2.2.1 58 0 = nI (xt_gh c r sd t) from by rw [(m4 0 (by omega)).2, xt_lo_0]) dX6_swap_80 ?_
        refine xt_iload C dX6_swap_81 rfl ?_
        refine xt_icmp_eqN (tgt := 94) C dX6_swap_83 (by decide) (by omega) (by omega) (fun c83 => ?_) (fun c83 => ?_)
        · exact absurd ⟨c72.symm, c83.symm⟩ hd
        · refine xt_aload_n C dX6_swap_86 rfl ?_
          refine xt_bipush (v := nI 6) C dX6_swap_87 (by decide) ?_
          refine xt_iconst (v := nI 0) C dX6_swap_89 rfl ?_
          refine xt_cV C mv_X6_refuses lkX6_178 (ct_mrefuses (by decide)) rfl (by decide) (xt_cl49 _ _) rfl (by decide) rfl (Nat.le_of_ble_eq_true rfl) dX6_swap_90 ?_
          exact xt_iret C dX6_swap_93 ⟨by decide, by decide⟩ ⟨rfl, T2, hfr3, rfl⟩
    · exact absurd ⟨u, hU, rfl⟩ c18
set_option maxRecDepth 20000 in
set_option maxHeartbeats 2000000 in
theorem ct_mswap_b1 {c r sd lv bo : Nat} (hM : xt_Mp S c r sd lv bo) {a b9 : Int32} (hbad : ¬ ((∃ j, j < xt_nt c r sd ∧ a = nI j) ∧ ∃ j, j < xt_nt c r sd ∧ b9 = nI j)) : xt_Ct E l yX6_swap cX6_swap 13 (some Jvm.ClassFile.FieldType.int) 4 81 0 0 [.ref (E.1 49), .int a, .int b9] S (xt_Ep (some (.int (nI 0))) (xt_mr S 1)) := by
  refine xt_body (by decide +kernel) (xt_all rfl) (Nat.le_of_ble_eq_true rfl) (fun cx C hl9 => ?_)
  show xt_X E cx _ 0 0 0 [some (.ref (E.1 49)), some (.int a), some (.int b9), none, none, none, none, none, none, none, none, none, none] [] S
  have hM9 := hM
  obtain ⟨hc, hr, hs, hv, hb, b1, b2, b3, b4, b5, b6, b7⟩ := hM
  refine xt_aload_n C dX6_swap_0 rfl ?_
  refine xt_iconst (v := nI 0) C dX6_swap_1 rfl ?_
  refine xt_put (f := 0) C xt_u6 rfl (by decide) (xt_cl49 _ _) (by decide) tyX6 tyX6_ok nmX6 lkX6_74 rfl (tyX6_ok 0 (by decide)) rfl rfl (Nat.le_of_ble_eq_true rfl) rfl dX6_swap_2 ?_
  refine xt_aload_n C dX6_swap_5 rfl ?_
  refine xt_iload_n C dX6_swap_6 rfl ?_
  refine xt_cV C mv_X6_isTile lkX6_165 (ct_isTile (by exact hM9)) rfl (by decide) (xt_cl49 _ _) rfl (by decide) rfl (Nat.le_of_ble_eq_true rfl) dX6_swap_7 ?_
  refine xt_if_eqB (tgt := 21) C dX6_swap_10 (by decide) (fun c10 => ?_) (fun c10 => ?_)
  · refine xt_aload_n C dX6_swap_21 rfl ?_
    refine xt_iconst (v := nI 1) C dX6_swap_22 rfl ?_
    refine xt_cV C mv_X6_raises lkX6_142 ct_mraises rfl (by decide) (xt_cl49 _ _) rfl (by decide) rfl (Nat.le_of_ble_eq_true rfl) dX6_swap_23 ?_
    exact xt_iret C dX6_swap_26 ⟨by decide, by decide⟩ ⟨rfl, xt_mr_x xt_mfr_rf⟩
  · refine xt_aload_n C dX6_swap_13 rfl ?_
    refine xt_iload_n C dX6_swap_14 rfl ?_
    refine xt_cV C mv_X6_isTile lkX6_165 (ct_isTile (by exact hM9)) rfl (by decide) (xt_cl49 _ _) rfl (by decide) rfl (Nat.le_of_ble_eq_true rfl) dX6_swap_15 ?_
    refine xt_if_neB (tgt := 27) C dX6_swap_18 (by decide) (fun c18 => ?_) (fun c18 => ?_)
    · exact absurd ⟨c10, c18⟩ hbad
    · refine xt_aload_n C dX6_swap_21 rfl ?_
      refine xt_iconst (v := nI 1) C dX6_swap_22 rfl ?_
      refine xt_cV C mv_X6_raises lkX6_142 ct_mraises rfl (by decide) (xt_cl49 _ _) rfl (by decide) rfl (Nat.le_of_ble_eq_true rfl) dX6_swap_23 ?_
      exact xt_iret C dX6_swap_26 ⟨by decide, by decide⟩ ⟨rfl, xt_mr_x xt_mfr_rf⟩
set_option maxRecDepth 20000 in
set_option maxHeartbeats 2000000 in
theorem ct_msoften {c r sd lv bo : Nat} (hM : xt_Mp S c r sd lv bo) {t : Nat} (ht : t < xt_nt c r sd) {v k : Nat → Int32} (hvv : ∀ j, j < 256 → xt_mV S j = v j) (hkk : ∀ j, j < 256 → xt_mK S j = k j) (hvr : ∀ j, j < 256 → ∃ m, m ≤ 255 ∧ v j = nI m) (hk : ∀ j, j < 256 → k j = nI 0 ∨ k j = nI 1) {kp : Nat} (hu : S.1 49 3 = nI kp) (hk8 : kp ≤ 8) {n : Nat} (hn9 : n ≤ 9) : xt_Ct E l yX6_soften cX6_soften 6 (some Jvm.ClassFile.FieldType.int) 4 84 0 0 [.ref (E.1 49), .int (nI t), .int (nI n)] S (xt_Ep (some (.int (xt_N2 (fun x y => ¬ xt_abs ((xt_tJ c r sd lv bo t n v k) (8 * y + x) - xt_tV c sd t v (8 * y + x)) = 0) (xt_gw c sd t) (xt_gh c r sd t)))) (fun S9 => ∃ T g, xt_mfr (xt_chg (xt_sN S 49 0 (nI 0)) kp) T ∧ S9 = xt_sA T 50 g ∧ xt_fl9 5 g (xt_put2 c (xt_gl c sd t) (xt_gt c sd t) (xt_gw c sd t) (xt_gh c r sd t) (xt_tJ c r sd lv bo t n v k) v) (S.2.1 50))) := by
  refine xt_body (by decide +kernel) (xt_all rfl) (Nat.le_of_ble_eq_true rfl) (fun cx C hl9 => ?_)
  show xt_X E cx _ 0 0 0 [some (.ref (E.1 49)), some (.int (nI t)), some (.int (nI n)), none, none, none] [] S
  have hM9 := hM
  obtain ⟨hc, hr, hs, hv, hb, b1, b2, b3, b4, b5, b6, b7⟩ := hM
  have hn := xt_nt_b ⟨b1, b2⟩ ⟨b3, b4⟩ b5
  have hT := xt_tile_b ⟨b1, b2⟩ ⟨b3, b4⟩ b5 ht
  have hdl : (xt_tD c r sd lv t) ≤ 3 := xt_dep_le.2
  refine xt_aload_n C dX6_soften_0 rfl ?_
  refine xt_iconst (v := nI 0) C dX6_soften_1 rfl ?_
  refine xt_put (f := 0) C xt_u6 rfl (by decide) (xt_cl49 _ _) (by decide) tyX6 tyX6_ok nmX6 lkX6_74 rfl (tyX6_ok 0 (by decide)) rfl rfl (Nat.le_of_ble_eq_true rfl) rfl dX6_soften_2 ?_
  refine xt_aload_n C dX6_soften_5 rfl ?_
  refine xt_iload_n C dX6_soften_6 rfl ?_
  refine xt_cV C mv_X6_isTile lkX6_165 (ct_isTile (by exact hM9)) rfl (by decide) (xt_cl49 _ _) rfl (by decide) rfl (Nat.le_of_ble_eq_true rfl) dX6_soften_7 ?_
  refine xt_if_neB (tgt := 19) C dX6_soften_10 (by decide) (fun c10 => ?_) (fun c10 => ?_)
  · refine xt_iload_n C dX6_soften_19 rfl ?_
    refine xt_iconst (v := nI 0) C dX6_soften_20 rfl ?_
    refine xt_bipush (v := nI 9) C dX6_soften_21 (by decide) ?_
    refine xt_cS C ms_X6_in lkX6_81 ct_in rfl (by decide) rfl (Nat.le_of_ble_eq_true rfl) dX6_soften_23 ?_
    refine xt_if_neB (tgt := 35) C dX6_soften_26 (by decide) (fun c26 => ?_) (fun c26 => ?_)
    · refine xt_aload_n C dX6_soften_35 rfl ?_
      refine xt_cVn C mv_X6_changes lkX6_145 (ct_changes (by exact hu) hk8) rfl (by decide) (xt_cl49 _ _) rfl (by decide) rfl (Nat.le_of_ble_eq_true rfl) dX6_soften_36 ?_
      have e50 : (xt_chg (xt_sN S 49 0 (nI 0)) kp).2.1 50 = S.2.1 50 := xt_sA_n (by decide)
      have hMc : xt_Mp (xt_chg (xt_sN S 49 0 (nI 0)) kp) c r sd lv bo := by
        unfold xt_Mp
        rw [e50]
        exact hM9
      have hvc : ∀ j, j < 256 → xt_mV (xt_chg (xt_sN S 49 0 (nI 0)) kp) j = v j := fun j hj => by unfold xt_mV; rw [e50]; exact hvv j hj
      have hkc : ∀ j, j < 256 → xt_mK (xt_chg (xt_sN S 49 0 (nI 0)) kp) j = k j := fun j hj => by unfold xt_mK; rw [e50]; exact hkk j hj
      refine xt_aload_n C dX6_soften_39 rfl ?_
      refine xt_iload_n C dX6_soften_40 rfl ?_
      refine xt_cVpn C mv_X6_looks lkX6_169 (ct_looks hMc ht (fun j hj => by rw [hkc j hj]; exact hk j hj)) rfl (by decide) (xt_cl49 _ _) rfl (by decide) rfl (Nat.le_of_ble_eq_true rfl) dX6_soften_41 (fun S9 hq9 => ?_)
      obtain ⟨hfr, hL0⟩ := hq9
      have hL := xt_ML_c ⟨b1, b2⟩ ⟨b3, b4⟩ b5 ht hvc hkc hL0
      rename xt_St => T1
      refine xt_aload_n C dX6_soften_44 rfl ?_
      refine xt_iload_n C dX6_soften_45 rfl ?_
      refine xt_cVpn C mv_X6_decodes lkX6_181 (ct_decodes (by exact xt_mfr_Mp hfr hMc) ht hL (xt_tA ⟨b1, b2⟩ ⟨b3, b4⟩ b5 ht hvr) hn9) rfl (by decide) (xt_cl49 _ _) rfl (by decide) rfl (Nat.le_of_ble_eq_true rfl) dX6_soften_46 (fun S9 hq9 => ?_)
      obtain ⟨hfr2, hL2, hJ⟩ := hq9
      have hfr3 := xt_mfr_tr hfr hfr2
      rename xt_St => T2
      have hMt := hL2.1
      obtain ⟨m1, m2, m3, m4, g1, g2, g3, g4, g5, g6, g7⟩ := id hMt
      refine xt_iconst (v := nI 0) C dX6_soften_49 rfl ?_
      refine xt_istore_n (lo' := [_, _, _, _, _, _]) C dX6_soften_50 (Nat.le_of_ble_eq_true rfl) rfl rfl ?_
      refine xt_iconst (v := nI 0) C dX6_soften_51 rfl ?_
      refine xt_istore (lo' := [_, _, _, _, _, _]) C dX6_soften_52 (Nat.le_of_ble_eq_true rfl) rfl rfl ?_
      have out1 : ∀ (d1 y : Nat) (g : Nat → Int32), y ≤ (xt_gh c r sd t) → (xt_fl9 5 g (xt_it (fun y f => xt_it (fun x f => upd f (((xt_gt c sd t) + y) * c + ((xt_gl c sd t) + x)) ((xt_tJ c r sd lv bo t n v k) (8 * y + x))) (xt_gw c sd t) f) y v) (S.2.1 50)) → (xt_gh c r sd t) + 1 ≤ y + d1 → xt_X E cx (xt_ZM E cx 0 0 (xt_Ep (some (.int (xt_N2 (fun x y => ¬ xt_abs ((xt_tJ c r sd lv bo t n v k) (8 * y + x) - xt_tV c sd t v (8 * y + x)) = 0) (xt_gw c sd t) (xt_gh c r sd t)))) (fun S9 => ∃ T g, xt_mfr (xt_chg (xt_sN S 49 0 (nI 0)) kp) T ∧ S9 = xt_sA T 50 g ∧ xt_fl9 5 g (xt_put2 c (xt_gl c sd t) (xt_gt c sd t) (xt_gw c sd t) (xt_gh c r sd t) (xt_tJ c r sd lv bo t n v k) v) (S.2.1 50)))) 0 0 54 [some (.ref (E.1 49)), some (.int (nI t)), some (.int (nI n)), some (.int (xt_it (fun y s => xt_it (fun x s => xt_ci (¬ xt_abs ((xt_tJ c r sd lv bo t n v k) (8 * y + x) - xt_tV c sd t v (8 * y + x)) = 0) s) (xt_gw c sd t) s) y 0)), some (.int (nI y)), none] [] (xt_sA T2 50 g) := by
        intro d1
        induction d1 with
        | zero => intro y g h0y hg h1y; exact absurd h1y (by omega)
        | succ d1 ih1 =>
          intro y g h0y hg h1y
          have hMg : xt_Mp (xt_sA T2 50 g) c r sd lv bo := xt_fl9_M (by decide) hg hM9
          refine xt_iload C dX6_soften_54 rfl ?_
          refine xt_aload_n C dX6_soften_56 rfl ?_
          refine xt_get (f := 20) C xt_u6 rfl (by decide) (xt_cl49 _ _) (by decide) lkX6_41 rfl dX6_soften_57 ?_
          refine xt_iconst (v := nI 0) C dX6_soften_60 rfl ?_
          refine xt_ialdN C (by decide) (xt_cl58 _) (by decide) (by decide) (show T2.2.1 58 0 = nI (xt_gh c r sd t) from by rw [(m4 0 (by omega)).2, xt_lo_0]) dX6_soften_61 ?_
          refine xt_icmp_geN (tgt := 145) C dX6_soften_62 (by decide) (by omega) (by omega) (fun c62 => ?_) (fun c62 => ?_)
          · refine xt_iload_n C dX6_soften_145 rfl ?_
            exact xt_iret C dX6_soften_146 ⟨by decide, by decide⟩ ⟨by rw [show y = (xt_gh c r sd t) by omega]; rfl, T2, g, hfr3, rfl, by rw [show y = (xt_gh c r sd t) by omega] at hg; exact hg⟩
          · refine xt_iconst (v := nI 0) C dX6_soften_65 rfl ?_
            refine xt_istore (lo' := [_, _, _, _, _, _]) C dX6_soften_66 (Nat.le_of_ble_eq_true rfl) rfl rfl ?_
            have in2 : ∀ (d2 x : Nat) (g : Nat → Int32), x ≤ (xt_gw c sd t) → (xt_fl9 5 g (xt_it (fun x f => upd f (((xt_gt c sd t) + y) * c + ((xt_gl c sd t) + x)) ((xt_tJ c r sd lv bo t n v k) (8 * y + x))) x (xt_it (fun y f => xt_it (fun x f => upd f (((xt_gt c sd t) + y) * c + ((xt_gl c sd t) + x)) ((xt_tJ c r sd lv bo t n v k) (8 * y + x))) (xt_gw c sd t) f) y v)) (S.2.1 50)) → (xt_gw c sd t) + 1 ≤ x + d2 → xt_X E cx (xt_ZM E cx 0 0 (xt_Ep (some (.int (xt_N2 (fun x y => ¬ xt_abs ((xt_tJ c r sd lv bo t n v k) (8 * y + x) - xt_tV c sd t v (8 * y + x)) = 0) (xt_gw c sd t) (xt_gh c r sd t)))) (fun S9 => ∃ T g, xt_mfr (xt_chg (xt_sN S 49 0 (nI 0)) kp) T ∧ S9 = xt_sA T 50 g ∧ xt_fl9 5 g (xt_put2 c (xt_gl c sd t) (xt_gt c sd t) (xt_gw c sd t) (xt_gh c r sd t) (xt_tJ c r sd lv bo t n v k) v) (S.2.1 50)))) 0 0 68 [some (.ref (E.1 49)), some (.int (nI t)), some (.int (nI n)), some (.int (xt_it (fun x s => xt_ci (¬ xt_abs ((xt_tJ c r sd lv bo t n v k) (8 * y + x) - xt_tV c sd t v (8 * y + x)) = 0) s) x (xt_it (fun y s => xt_it (fun x s => xt_ci (¬ xt_abs ((xt_tJ c r sd lv bo t n v k) (8 * y + x) - xt_tV c sd t v (8 * y + x)) = 0) s) (xt_gw c sd t) s) y 0))), some (.int (nI y)), some (.int (nI x))] [] (xt_sA T2 50 g) := by
              intro d2
              induction d2 with
              | zero => intro x g h0x hg h1x; exact absurd h1x (by omega)
              | succ d2 ih2 =>
                intro x g h0x hg h1x
                have hMg : xt_Mp (xt_sA T2 50 g) c r sd lv bo := xt_fl9_M (by decide) hg hM9
                refine xt_iload C dX6_soften_68 rfl ?_
                refine xt_aload_n C dX6_soften_70 rfl ?_
                refine xt_get (f := 19) C xt_u6 rfl (by decide) (xt_cl49 _ _) (by decide) lkX6_38 rfl dX6_soften_71 ?_
                refine xt_iconst (v := nI 0) C dX6_soften_74 rfl ?_
                refine xt_ialdN C (by decide) (xt_cl57 _) (by decide) (by decide) (show T2.2.1 57 0 = nI (xt_gw c sd t) from by rw [(m4 0 (by omega)).1, xt_lo_0]) dX6_soften_75 ?_
                refine xt_icmp_geN (tgt := 139) C dX6_soften_76 (by decide) (by omega) (by omega) (fun c76 => ?_) (fun c76 => ?_)
                · refine xt_iincN (z := 1) (lo' := [_, _, _, _, _, _]) C dX6_soften_139 rfl rfl rfl ?_
                  refine xt_goto (tgt := 54) C dX6_soften_142 (by decide) ?_
                  have hx9 : x = (xt_gw c sd t) := by omega
                  subst hx9
                  exact xt_fg (by repeat' constructor) (ih1 (y + 1) g (by omega) hg (by omega))
                · have hix := (xt_ix (c := c) (r := r) (x := (xt_gl c sd t) + x) (y := (xt_gt c sd t) + y) (by omega) (by omega) b2 b4).1
                  have hun : xt_mV (xt_sA T2 50 g) (((xt_gt c sd t) + y) * c + ((xt_gl c sd t) + x)) = xt_tV c sd t v (8 * y + x) := by
                    unfold xt_mV
                    rw [xt_sA_s, hg.1 _ hix, xt_tV_at (by omega)]
                    exact xt_put2_un (h := (xt_gh c r sd t)) (by omega) (by omega) (by omega)
                  obtain ⟨m9, hm9, em9⟩ := xt_abs_d (a := (xt_tJ c r sd lv bo t n v k) (8 * y + x)) (b := xt_tV c sd t v (8 * y + x)) (by rw [xt_tJ_F]; exact xt_cl_r) (by rw [xt_tV_at (by omega)]; exact xt_r255 (hvr _ hix))
                  refine xt_aload_n C dX6_soften_79 rfl ?_
                  refine xt_iload C dX6_soften_80 rfl ?_
                  refine xt_iload C dX6_soften_82 rfl ?_
                  refine xt_cV C mv_X6_differs lkX6_139 (ct_differs hMg ht (by omega) (by omega) (xt_Mt_k hMt rfl rfl rfl) (a := (xt_tJ c r sd lv bo t n v k) (8 * y + x)) (hJ y x (by omega) (by omega)) hun) rfl (by decide) (xt_cl49 _ _) rfl (by decide) rfl (Nat.le_of_ble_eq_true rfl) dX6_soften_84 ?_
                  refine xt_if_le (tgt := 93) C dX6_soften_87 (by decide) (fun c87 => ?_) (fun c87 => ?_)
                  · have hz : ¬ (¬ xt_abs ((xt_tJ c r sd lv bo t n v k) (8 * y + x) - xt_tV c sd t v (8 * y + x)) = 0) := fun z => z (by rw [em9] at c87 ⊢; have h9 : m9 = 0 := (by have := (nI_leI (a := m9) (b := 0) (by omega) (by decide)).mp c87; omega); rw [h9]; rfl)
                    refine xt_aload_n C dX6_soften_93 rfl ?_
                    refine xt_get (f := 1) C xt_u6 rfl (by decide) (xt_cl49 _ _) (by decide) lkX6_9 rfl dX6_soften_94 ?_
                    refine xt_iconst (v := nI 5) C dX6_soften_97 rfl ?_
                    refine xt_aload_n C dX6_soften_98 rfl ?_
                    refine xt_cV C mv_X6_columns lkX6_77 (ct_mcol hMg) rfl (by decide) (xt_cl49 _ _) rfl (by decide) rfl (Nat.le_of_ble_eq_true rfl) dX6_soften_99 ?_
                    refine xt_aload_n C dX6_soften_102 rfl ?_
                    refine xt_get (f := 17) C xt_u6 rfl (by decide) (xt_cl49 _ _) (by decide) lkX6_100 (xt_vI (by exact m2)) dX6_soften_103 ?_
                    refine xt_iload C dX6_soften_106 rfl ?_
                    refine xt_iaddN C dX6_soften_108 ?_
                    refine xt_imulN C dX6_soften_109 ?_
                    refine xt_iaddN C dX6_soften_110 ?_
                    refine xt_aload_n C dX6_soften_111 rfl ?_
                    refine xt_get (f := 16) C xt_u6 rfl (by decide) (xt_cl49 _ _) (by decide) lkX6_97 (xt_vI (by exact m1)) dX6_soften_112 ?_
                    refine xt_iaddN C dX6_soften_115 ?_
                    refine xt_iload C dX6_soften_116 rfl ?_
                    refine xt_iaddN C dX6_soften_118 ?_
                    rw [show 5 + c * ((xt_gt c sd t) + y) + (xt_gl c sd t) + x = 5 + (((xt_gt c sd t) + y) * c + ((xt_gl c sd t) + x)) by rw [Nat.mul_comm ((xt_gt c sd t) + y) c]; omega]
                    refine xt_aload_n C dX6_soften_119 rfl ?_
                    refine xt_get (f := 23) C xt_u6 rfl (by decide) (xt_cl49 _ _) (by decide) lkX6_51 rfl dX6_soften_120 ?_
                    refine xt_aload_n C dX6_soften_123 rfl ?_
                    refine xt_iload C dX6_soften_124 rfl ?_
                    refine xt_iload C dX6_soften_126 rfl ?_
                    refine xt_cV C mv_X6_place lkX6_116 ct_mplace rfl (by decide) (xt_cl49 _ _) rfl (by decide) rfl (Nat.le_of_ble_eq_true rfl) dX6_soften_128 ?_
                    refine xt_ialdN C (by decide) (xt_cl61 _) (by omega) (by decide) (show (xt_sA T2 50 g).2.1 61 (8 * y + x) = (xt_tJ c r sd lv bo t n v k) (8 * y + x) from hJ y x (by omega) (by omega)) dX6_soften_131 ?_
                    refine xt_iastN C (by decide) (xt_cl50 _) (by omega) (by decide) dX6_soften_132 ?_
                    rw [xt_sA_s, xt_sA_sA]
                    refine xt_iincN (z := 1) (lo' := [_, _, _, _, _, _]) C dX6_soften_133 rfl rfl rfl ?_
                    refine xt_goto (tgt := 68) C dX6_soften_136 (by decide) ?_
                    have h9 := ih2 (x + 1) _ (by omega) (xt_fl9_u (z := (xt_tJ c r sd lv bo t n v k) (8 * y + x)) hg hix) (by omega)
                    rw [show xt_it (fun x s => xt_ci (¬ xt_abs ((xt_tJ c r sd lv bo t n v k) (8 * y + x) - xt_tV c sd t v (8 * y + x)) = 0) s) (x + 1) (xt_it (fun y s => xt_it (fun x s => xt_ci (¬ xt_abs ((xt_tJ c r sd lv bo t n v k) (8 * y + x) - xt_tV c sd t v (8 * y + x)) = 0) s) (xt_gw c sd t) s) y 0) = xt_ci (¬ xt_abs ((xt_tJ c r sd lv bo t n v k) (8 * y + x) - xt_tV c sd t v (8 * y + x)) = 0) (xt_it (fun x s => xt_ci (¬ xt_abs ((xt_tJ c r sd lv bo t n v k) (8 * y + x) - xt_tV c sd t v (8 * y + x)) = 0) s) x (xt_it (fun y s => xt_it (fun x s => xt_ci (¬ xt_abs ((xt_tJ c r sd lv bo t n v k) (8 * y + x) - xt_tV c sd t v (8 * y + x)) = 0) s) (xt_gw c sd t) s) y 0)) from rfl] at h9
                    first
                    | rw [xt_ci1 hz] at h9
                    | rw [xt_ci0 hz] at h9
                    exact xt_fg (by repeat' constructor) h9
                  · have hz : (¬ xt_abs ((xt_tJ c r sd lv bo t n v k) (8 * y + x) - xt_tV c sd t v (8 * y + x)) = 0) := fun z => c87 (by rw [z]; decide)
                    refine xt_iinc (lo' := [_, _, _, _, _, _]) C dX6_soften_90 rfl rfl rfl rfl ?_
                    refine xt_aload_n C dX6_soften_93 rfl ?_
                    refine xt_get (f := 1) C xt_u6 rfl (by decide) (xt_cl49 _ _) (by decide) lkX6_9 rfl dX6_soften_94 ?_
                    refine xt_iconst (v := nI 5) C dX6_soften_97 rfl ?_
                    refine xt_aload_n C dX6_soften_98 rfl ?_
                    refine xt_cV C mv_X6_columns lkX6_77 (ct_mcol hMg) rfl (by decide) (xt_cl49 _ _) rfl (by decide) rfl (Nat.le_of_ble_eq_true rfl) dX6_soften_99 ?_
                    refine xt_aload_n C dX6_soften_102 rfl ?_
                    refine xt_get (f := 17) C xt_u6 rfl (by decide) (xt_cl49 _ _) (by decide) lkX6_100 (xt_vI (by exact m2)) dX6_soften_103 ?_
                    refine xt_iload C dX6_soften_106 rfl ?_
                    refine xt_iaddN C dX6_soften_108 ?_
                    refine xt_imulN C dX6_soften_109 ?_
                    refine xt_iaddN C dX6_soften_110 ?_
                    refine xt_aload_n C dX6_soften_111 rfl ?_
                    refine xt_get (f := 16) C xt_u6 rfl (by decide) (xt_cl49 _ _) (by decide) lkX6_97 (xt_vI (by exact m1)) dX6_soften_112 ?_
                    refine xt_iaddN C dX6_soften_115 ?_
                    refine xt_iload C dX6_soften_116 rfl ?_
                    refine xt_iaddN C dX6_soften_118 ?_
                    rw [show 5 + c * ((xt_gt c sd t) + y) + (xt_gl c sd t) + x = 5 + (((xt_gt c sd t) + y) * c + ((xt_gl c sd t) + x)) by rw [Nat.mul_comm ((xt_gt c sd t) + y) c]; omega]
                    refine xt_aload_n C dX6_soften_119 rfl ?_
                    refine xt_get (f := 23) C xt_u6 rfl (by decide) (xt_cl49 _ _) (by decide) lkX6_51 rfl dX6_soften_120 ?_
                    refine xt_aload_n C dX6_soften_123 rfl ?_
                    refine xt_iload C dX6_soften_124 rfl ?_
                    refine xt_iload C dX6_soften_126 rfl ?_
                    refine xt_cV C mv_X6_place lkX6_116 ct_mplace rfl (by decide) (xt_cl49 _ _) rfl (by decide) rfl (Nat.le_of_ble_eq_true rfl) dX6_soften_128 ?_
                    refine xt_ialdN C (by decide) (xt_cl61 _) (by omega) (by decide) (show (xt_sA T2 50 g).2.1 61 (8 * y + x) = (xt_tJ c r sd lv bo t n v k) (8 * y + x) from hJ y x (by omega) (by omega)) dX6_soften_131 ?_
                    refine xt_iastN C (by decide) (xt_cl50 _) (by omega) (by decide) dX6_soften_132 ?_
                    rw [xt_sA_s, xt_sA_sA]
                    refine xt_iincN (z := 1) (lo' := [_, _, _, _, _, _]) C dX6_soften_133 rfl rfl rfl ?_
                    refine xt_goto (tgt := 68) C dX6_soften_136 (by decide) ?_
                    have h9 := ih2 (x + 1) _ (by omega) (xt_fl9_u (z := (xt_tJ c r sd lv bo t n v k) (8 * y + x)) hg hix) (by omega)
                    rw [show xt_it (fun x s => xt_ci (¬ xt_abs ((xt_tJ c r sd lv bo t n v k) (8 * y + x) - xt_tV c sd t v (8 * y + x)) = 0) s) (x + 1) (xt_it (fun y s => xt_it (fun x s => xt_ci (¬ xt_abs ((xt_tJ c r sd lv bo t n v k) (8 * y + x) - xt_tV c sd t v (8 * y + x)) = 0) s) (xt_gw c sd t) s) y 0) = xt_ci (¬ xt_abs ((xt_tJ c r sd lv bo t n v k) (8 * y + x) - xt_tV c sd t v (8 * y + x)) = 0) (xt_it (fun x s => xt_ci (¬ xt_abs ((xt_tJ c r sd lv bo t n v k) (8 * y + x) - xt_tV c sd t v (8 * y + x)) = 0) s) x (xt_it (fun y s => xt_it (fun x s => xt_ci (¬ xt_abs ((xt_tJ c r sd lv bo t n v k) (8 * y + x) - xt_tV c sd t v (8 * y + x)) = 0) s) (xt_gw c sd t) s) y 0)) from rfl] at h9
                    first
                    | rw [xt_ci1 hz] at h9
                    | rw [xt_ci0 hz] at h9
                    exact xt_fg (by repeat' constructor) h9
            exact xt_fg (by repeat' constructor) (in2 ((xt_gw c sd t) + 1) 0 g (by omega) hg (by omega))
      have e51 : T2.2.1 50 = S.2.1 50 := (hfr3.2.1 50 (by omega)).trans e50
      have h9 := out1 ((xt_gh c r sd t) + 1) 0 (T2.2.1 50) (by omega) (by rw [e51]; exact ⟨hvv, fun _ _ => rfl⟩) (by omega)
      rw [xt_sA_self] at h9
      exact xt_fg (by repeat' constructor) h9
    · exact absurd ⟨nI_pos' (by omega), nI_le hn9 (by omega)⟩ c26
  · exact absurd ⟨t, ht, rfl⟩ c10
set_option maxRecDepth 20000 in
set_option maxHeartbeats 2000000 in
theorem ct_msoften_b1 {c r sd lv bo : Nat} (hM : xt_Mp S c r sd lv bo) {a q : Int32} (hbad : ¬ ∃ j, j < xt_nt c r sd ∧ a = nI j) : xt_Ct E l yX6_soften cX6_soften 6 (some Jvm.ClassFile.FieldType.int) 4 84 0 0 [.ref (E.1 49), .int a, .int q] S (xt_Ep (some (.int (nI 0))) (xt_mr S 1)) := by
  refine xt_body (by decide +kernel) (xt_all rfl) (Nat.le_of_ble_eq_true rfl) (fun cx C hl9 => ?_)
  show xt_X E cx _ 0 0 0 [some (.ref (E.1 49)), some (.int a), some (.int q), none, none, none] [] S
  have hM9 := hM
  obtain ⟨hc, hr, hs, hv, hb, b1, b2, b3, b4, b5, b6, b7⟩ := hM
  refine xt_aload_n C dX6_soften_0 rfl ?_
  refine xt_iconst (v := nI 0) C dX6_soften_1 rfl ?_
  refine xt_put (f := 0) C xt_u6 rfl (by decide) (xt_cl49 _ _) (by decide) tyX6 tyX6_ok nmX6 lkX6_74 rfl (tyX6_ok 0 (by decide)) rfl rfl (Nat.le_of_ble_eq_true rfl) rfl dX6_soften_2 ?_
  refine xt_aload_n C dX6_soften_5 rfl ?_
  refine xt_iload_n C dX6_soften_6 rfl ?_
  refine xt_cV C mv_X6_isTile lkX6_165 (ct_isTile (by exact hM9)) rfl (by decide) (xt_cl49 _ _) rfl (by decide) rfl (Nat.le_of_ble_eq_true rfl) dX6_soften_7 ?_
  refine xt_if_neB (tgt := 19) C dX6_soften_10 (by decide) (fun c10 => ?_) (fun c10 => ?_)
  · exact absurd c10 hbad
  · refine xt_aload_n C dX6_soften_13 rfl ?_
    refine xt_iconst (v := nI 1) C dX6_soften_14 rfl ?_
    refine xt_cV C mv_X6_raises lkX6_142 ct_mraises rfl (by decide) (xt_cl49 _ _) rfl (by decide) rfl (Nat.le_of_ble_eq_true rfl) dX6_soften_15 ?_
    exact xt_iret C dX6_soften_18 ⟨by decide, by decide⟩ ⟨rfl, xt_mr_x xt_mfr_rf⟩
set_option maxRecDepth 20000 in
set_option maxHeartbeats 2000000 in
theorem ct_msoften_b2 {c r sd lv bo : Nat} (hM : xt_Mp S c r sd lv bo) {a q : Int32} (hbad : ∃ j, j < xt_nt c r sd ∧ a = nI j) (hq : ¬ (nI 0 ≤ q ∧ q ≤ nI 9)) : xt_Ct E l yX6_soften cX6_soften 6 (some Jvm.ClassFile.FieldType.int) 4 84 0 0 [.ref (E.1 49), .int a, .int q] S (xt_Ep (some (.int (nI 0))) (xt_mr S 2)) := by
  refine xt_body (by decide +kernel) (xt_all rfl) (Nat.le_of_ble_eq_true rfl) (fun cx C hl9 => ?_)
  show xt_X E cx _ 0 0 0 [some (.ref (E.1 49)), some (.int a), some (.int q), none, none, none] [] S
  have hM9 := hM
  obtain ⟨hc, hr, hs, hv, hb, b1, b2, b3, b4, b5, b6, b7⟩ := hM
  refine xt_aload_n C dX6_soften_0 rfl ?_
  refine xt_iconst (v := nI 0) C dX6_soften_1 rfl ?_
  refine xt_put (f := 0) C xt_u6 rfl (by decide) (xt_cl49 _ _) (by decide) tyX6 tyX6_ok nmX6 lkX6_74 rfl (tyX6_ok 0 (by decide)) rfl rfl (Nat.le_of_ble_eq_true rfl) rfl dX6_soften_2 ?_
  refine xt_aload_n C dX6_soften_5 rfl ?_
  refine xt_iload_n C dX6_soften_6 rfl ?_
  refine xt_cV C mv_X6_isTile lkX6_165 (ct_isTile (by exact hM9)) rfl (by decide) (xt_cl49 _ _) rfl (by decide) rfl (Nat.le_of_ble_eq_true rfl) dX6_soften_7 ?_
  refine xt_if_neB (tgt := 19) C dX6_soften_10 (by decide) (fun c10 => ?_) (fun c10 => ?_)
  · refine xt_iload_n C dX6_soften_19 rfl ?_
    refine xt_iconst (v := nI 0) C dX6_soften_20 rfl ?_
    refine xt_bipush (v := nI 9) C dX6_soften_21 (by decide) ?_
    refine xt_cS C ms_X6_in lkX6_81 ct_in rfl (by decide) rfl (Nat.le_of_ble_eq_true rfl) dX6_soften_23 ?_
    refine xt_if_neB (tgt := 35) C dX6_soften_26 (by decide) (fun c26 => ?_) (fun c26 => ?_)
    · exact absurd c26 hq
    · refine xt_aload_n C dX6_soften_29 rfl ?_
      refine xt_iconst (v := nI 2) C dX6_soften_30 rfl ?_
      refine xt_cV C mv_X6_raises lkX6_142 ct_mraises rfl (by decide) (xt_cl49 _ _) rfl (by decide) rfl (Nat.le_of_ble_eq_true rfl) dX6_soften_31 ?_
      exact xt_iret C dX6_soften_34 ⟨by decide, by decide⟩ ⟨rfl, xt_mr_x xt_mfr_rf⟩
  · exact absurd hbad c10
set_option maxRecDepth 20000 in
set_option maxHeartbeats 2000000 in
theorem ct_mtile {c r sd lv bo : Nat} (hM : xt_Mp S c r sd lv bo) {t : Nat} (ht : t < xt_nt c r sd) {v k : Nat → Int32} (hvv : ∀ j, j < 256 → xt_mV S j = v j) (hkk : ∀ j, j < 256 → xt_mK S j = k j) (hvr : ∀ j, j < 256 → ∃ m, m ≤ 255 ∧ v j = nI m) (hk : ∀ j, j < 256 → k j = nI 0 ∨ k j = nI 1) {j : Nat} (hj : j < 9) : xt_Ct E l yX6_tile cX6_tile 6 (some Jvm.ClassFile.FieldType.int) 4 84 0 0 [.ref (E.1 49), .int (nI t), .int (nI j)] S (xt_Ep (some (.int (xt_til c r sd lv t v k j))) (xt_mr S 0)) := by
  refine xt_body (by decide +kernel) (xt_all rfl) (Nat.le_of_ble_eq_true rfl) (fun cx C hl9 => ?_)
  show xt_X E cx _ 0 0 0 [some (.ref (E.1 49)), some (.int (nI t)), some (.int (nI j)), none, none, none] [] S
  have hM9 := hM
  obtain ⟨hc, hr, hs, hv, hb, b1, b2, b3, b4, b5, b6, b7⟩ := hM
  have hn := xt_nt_b ⟨b1, b2⟩ ⟨b3, b4⟩ b5
  have hT := xt_tile_b ⟨b1, b2⟩ ⟨b3, b4⟩ b5 ht
  have hdl : (xt_tD c r sd lv t) ≤ 3 := xt_dep_le.2
  have hk9 : ∀ j, j < 256 → xt_mK S j = nI 0 ∨ xt_mK S j = nI 1 := fun j hj => by rw [hkk j hj]; exact hk j hj
  match j, hj with
  | 0, _ =>
    refine xt_aload_n C dX6_tile_0 rfl ?_
    refine xt_iconst (v := nI 0) C dX6_tile_1 rfl ?_
    refine xt_put (f := 0) C xt_u6 rfl (by decide) (xt_cl49 _ _) (by decide) tyX6 tyX6_ok nmX6 lkX6_74 rfl (tyX6_ok 0 (by decide)) rfl rfl (Nat.le_of_ble_eq_true rfl) rfl dX6_tile_2 ?_
    refine xt_aload_n C dX6_tile_5 rfl ?_
    refine xt_iload_n C dX6_tile_6 rfl ?_
    refine xt_cV C mv_X6_isTile lkX6_165 (ct_isTile (by exact hM9)) rfl (by decide) (xt_cl49 _ _) rfl (by decide) rfl (Nat.le_of_ble_eq_true rfl) dX6_tile_7 ?_
    refine xt_if_neB (tgt := 19) C dX6_tile_10 (by decide) (fun c10 => ?_) (fun c10 => ?_)
    · refine xt_iload_n C dX6_tile_19 rfl ?_
      refine xt_iconst (v := nI 0) C dX6_tile_20 rfl ?_
      refine xt_bipush (v := nI 8) C dX6_tile_21 (by decide) ?_
      refine xt_cS C ms_X6_in lkX6_81 ct_in rfl (by decide) rfl (Nat.le_of_ble_eq_true rfl) dX6_tile_23 ?_
      refine xt_if_neB (tgt := 35) C dX6_tile_26 (by decide) (fun c26 => ?_) (fun c26 => ?_)
      · refine xt_aload_n C dX6_tile_35 rfl ?_
        refine xt_iload_n C dX6_tile_36 rfl ?_
        refine xt_cVpn C mv_X6_looks lkX6_169 (ct_looks (by exact hM9) ht (by exact hk9)) rfl (by decide) (xt_cl49 _ _) rfl (by decide) rfl (Nat.le_of_ble_eq_true rfl) dX6_tile_37 (fun S9 hq9 => ?_)
        obtain ⟨hfr, hL0⟩ := hq9
        have hL := xt_ML_c ⟨b1, b2⟩ ⟨b3, b4⟩ b5 ht hvv hkk hL0
        rename xt_St => T1
        have hMt := hL.1
        obtain ⟨m1, m2, m3, m4, g1, g2, g3, g4, g5, g6, g7⟩ := id hMt
        refine xt_iload_n C dX6_tile_40 rfl ?_
        refine xt_if_neN (tgt := 49) C dX6_tile_41 (by decide) (by omega) (fun c41 => ?_) (fun c41 => ?_)
        · exact absurd c41 (by decide)
        · refine xt_aload_n C dX6_tile_44 rfl ?_
          refine xt_get (f := 16) C xt_u6 rfl (by decide) (xt_cl49 _ _) (by decide) lkX6_97 (xt_vI (by exact m1)) dX6_tile_45 ?_
          exact xt_iret C dX6_tile_48 ⟨by decide, by decide⟩ ⟨rfl, xt_mr_0 hfr⟩
      · exact absurd ⟨nI_pos' (by decide), nI_le (by decide) (by decide)⟩ c26
    · exact absurd ⟨t, ht, rfl⟩ c10
  | 1, _ =>
    refine xt_aload_n C dX6_tile_0 rfl ?_
    refine xt_iconst (v := nI 0) C dX6_tile_1 rfl ?_
    refine xt_put (f := 0) C xt_u6 rfl (by decide) (xt_cl49 _ _) (by decide) tyX6 tyX6_ok nmX6 lkX6_74 rfl (tyX6_ok 0 (by decide)) rfl rfl (Nat.le_of_ble_eq_true rfl) rfl dX6_tile_2 ?_
    refine xt_aload_n C dX6_tile_5 rfl ?_
    refine xt_iload_n C dX6_tile_6 rfl ?_
    refine xt_cV C mv_X6_isTile lkX6_165 (ct_isTile (by exact hM9)) rfl (by decide) (xt_cl49 _ _) rfl (by decide) rfl (Nat.le_of_ble_eq_true rfl) dX6_tile_7 ?_
    refine xt_if_neB (tgt := 19) C dX6_tile_10 (by decide) (fun c10 => ?_) (fun c10 => ?_)
    · refine xt_iload_n C dX6_tile_19 rfl ?_
      refine xt_iconst (v := nI 0) C dX6_tile_20 rfl ?_
      refine xt_bipush (v := nI 8) C dX6_tile_21 (by decide) ?_
      refine xt_cS C ms_X6_in lkX6_81 ct_in rfl (by decide) rfl (Nat.le_of_ble_eq_true rfl) dX6_tile_23 ?_
      refine xt_if_neB (tgt := 35) C dX6_tile_26 (by decide) (fun c26 => ?_) (fun c26 => ?_)
      · refine xt_aload_n C dX6_tile_35 rfl ?_
        refine xt_iload_n C dX6_tile_36 rfl ?_
        refine xt_cVpn C mv_X6_looks lkX6_169 (ct_looks (by exact hM9) ht (by exact hk9)) rfl (by decide) (xt_cl49 _ _) rfl (by decide) rfl (Nat.le_of_ble_eq_true rfl) dX6_tile_37 (fun S9 hq9 => ?_)
        obtain ⟨hfr, hL0⟩ := hq9
        have hL := xt_ML_c ⟨b1, b2⟩ ⟨b3, b4⟩ b5 ht hvv hkk hL0
        rename xt_St => T1
        have hMt := hL.1
        obtain ⟨m1, m2, m3, m4, g1, g2, g3, g4, g5, g6, g7⟩ := id hMt
        refine xt_iload_n C dX6_tile_40 rfl ?_
        refine xt_if_neN (tgt := 49) C dX6_tile_41 (by decide) (by omega) (fun c41 => ?_) (fun c41 => ?_)
        · refine xt_iload_n C dX6_tile_49 rfl ?_
          refine xt_iconst (v := nI 1) C dX6_tile_50 rfl ?_
          refine xt_icmp_neN (tgt := 59) C dX6_tile_51 (by decide) (by omega) (by omega) (fun c51 => ?_) (fun c51 => ?_)
          · exact absurd rfl c51
          · refine xt_aload_n C dX6_tile_54 rfl ?_
            refine xt_get (f := 17) C xt_u6 rfl (by decide) (xt_cl49 _ _) (by decide) lkX6_100 (xt_vI (by exact m2)) dX6_tile_55 ?_
            exact xt_iret C dX6_tile_58 ⟨by decide, by decide⟩ ⟨rfl, xt_mr_0 hfr⟩
        · exact absurd c41 (by decide)
      · exact absurd ⟨nI_pos' (by decide), nI_le (by decide) (by decide)⟩ c26
    · exact absurd ⟨t, ht, rfl⟩ c10
  | 2, _ =>
    refine xt_aload_n C dX6_tile_0 rfl ?_
    refine xt_iconst (v := nI 0) C dX6_tile_1 rfl ?_
    refine xt_put (f := 0) C xt_u6 rfl (by decide) (xt_cl49 _ _) (by decide) tyX6 tyX6_ok nmX6 lkX6_74 rfl (tyX6_ok 0 (by decide)) rfl rfl (Nat.le_of_ble_eq_true rfl) rfl dX6_tile_2 ?_
    refine xt_aload_n C dX6_tile_5 rfl ?_
    refine xt_iload_n C dX6_tile_6 rfl ?_
    refine xt_cV C mv_X6_isTile lkX6_165 (ct_isTile (by exact hM9)) rfl (by decide) (xt_cl49 _ _) rfl (by decide) rfl (Nat.le_of_ble_eq_true rfl) dX6_tile_7 ?_
    refine xt_if_neB (tgt := 19) C dX6_tile_10 (by decide) (fun c10 => ?_) (fun c10 => ?_)
    · refine xt_iload_n C dX6_tile_19 rfl ?_
      refine xt_iconst (v := nI 0) C dX6_tile_20 rfl ?_
      refine xt_bipush (v := nI 8) C dX6_tile_21 (by decide) ?_
      refine xt_cS C ms_X6_in lkX6_81 ct_in rfl (by decide) rfl (Nat.le_of_ble_eq_true rfl) dX6_tile_23 ?_
      refine xt_if_neB (tgt := 35) C dX6_tile_26 (by decide) (fun c26 => ?_) (fun c26 => ?_)
      · refine xt_aload_n C dX6_tile_35 rfl ?_
        refine xt_iload_n C dX6_tile_36 rfl ?_
        refine xt_cVpn C mv_X6_looks lkX6_169 (ct_looks (by exact hM9) ht (by exact hk9)) rfl (by decide) (xt_cl49 _ _) rfl (by decide) rfl (Nat.le_of_ble_eq_true rfl) dX6_tile_37 (fun S9 hq9 => ?_)
        obtain ⟨hfr, hL0⟩ := hq9
        have hL := xt_ML_c ⟨b1, b2⟩ ⟨b3, b4⟩ b5 ht hvv hkk hL0
        rename xt_St => T1
        have hMt := hL.1
        obtain ⟨m1, m2, m3, m4, g1, g2, g3, g4, g5, g6, g7⟩ := id hMt
        refine xt_iload_n C dX6_tile_40 rfl ?_
        refine xt_if_neN (tgt := 49) C dX6_tile_41 (by decide) (by omega) (fun c41 => ?_) (fun c41 => ?_)
        · refine xt_iload_n C dX6_tile_49 rfl ?_
          refine xt_iconst (v := nI 1) C dX6_tile_50 rfl ?_
          refine xt_icmp_neN (tgt := 59) C dX6_tile_51 (by decide) (by omega) (by omega) (fun c51 => ?_) (fun c51 => ?_)
          · refine xt_iload_n C dX6_tile_59 rfl ?_
            refine xt_iconst (v := nI 2) C dX6_tile_60 rfl ?_
            refine xt_icmp_neN (tgt := 71) C dX6_tile_61 (by decide) (by omega) (by omega) (fun c61 => ?_) (fun c61 => ?_)
            · exact absurd rfl c61
            · refine xt_aload_n C dX6_tile_64 rfl ?_
              refine xt_get (f := 19) C xt_u6 rfl (by decide) (xt_cl49 _ _) (by decide) lkX6_38 rfl dX6_tile_65 ?_
              refine xt_iconst (v := nI 0) C dX6_tile_68 rfl ?_
              refine xt_ialdN C (by decide) (xt_cl57 _) (by decide) (by decide) (show T1.2.1 57 0 = nI (xt_gw c sd t) from by rw [(m4 0 (by omega)).1, xt_lo_0]) dX6_tile_69 ?_
              exact xt_iret C dX6_tile_70 ⟨by decide, by decide⟩ ⟨rfl, xt_mr_0 hfr⟩
          · exact absurd c51 (by decide)
        · exact absurd c41 (by decide)
      · exact absurd ⟨nI_pos' (by decide), nI_le (by decide) (by decide)⟩ c26
    · exact absurd ⟨t, ht, rfl⟩ c10
  | 3, _ =>
    refine xt_aload_n C dX6_tile_0 rfl ?_
    refine xt_iconst (v := nI 0) C dX6_tile_1 rfl ?_
    refine xt_put (f := 0) C xt_u6 rfl (by decide) (xt_cl49 _ _) (by decide) tyX6 tyX6_ok nmX6 lkX6_74 rfl (tyX6_ok 0 (by decide)) rfl rfl (Nat.le_of_ble_eq_true rfl) rfl dX6_tile_2 ?_
    refine xt_aload_n C dX6_tile_5 rfl ?_
    refine xt_iload_n C dX6_tile_6 rfl ?_
    refine xt_cV C mv_X6_isTile lkX6_165 (ct_isTile (by exact hM9)) rfl (by decide) (xt_cl49 _ _) rfl (by decide) rfl (Nat.le_of_ble_eq_true rfl) dX6_tile_7 ?_
    refine xt_if_neB (tgt := 19) C dX6_tile_10 (by decide) (fun c10 => ?_) (fun c10 => ?_)
    · refine xt_iload_n C dX6_tile_19 rfl ?_
      refine xt_iconst (v := nI 0) C dX6_tile_20 rfl ?_
      refine xt_bipush (v := nI 8) C dX6_tile_21 (by decide) ?_
      refine xt_cS C ms_X6_in lkX6_81 ct_in rfl (by decide) rfl (Nat.le_of_ble_eq_true rfl) dX6_tile_23 ?_
      refine xt_if_neB (tgt := 35) C dX6_tile_26 (by decide) (fun c26 => ?_) (fun c26 => ?_)
      · refine xt_aload_n C dX6_tile_35 rfl ?_
        refine xt_iload_n C dX6_tile_36 rfl ?_
        refine xt_cVpn C mv_X6_looks lkX6_169 (ct_looks (by exact hM9) ht (by exact hk9)) rfl (by decide) (xt_cl49 _ _) rfl (by decide) rfl (Nat.le_of_ble_eq_true rfl) dX6_tile_37 (fun S9 hq9 => ?_)
        obtain ⟨hfr, hL0⟩ := hq9
        have hL := xt_ML_c ⟨b1, b2⟩ ⟨b3, b4⟩ b5 ht hvv hkk hL0
        rename xt_St => T1
        have hMt := hL.1
        obtain ⟨m1, m2, m3, m4, g1, g2, g3, g4, g5, g6, g7⟩ := id hMt
        refine xt_iload_n C dX6_tile_40 rfl ?_
        refine xt_if_neN (tgt := 49) C dX6_tile_41 (by decide) (by omega) (fun c41 => ?_) (fun c41 => ?_)
        · refine xt_iload_n C dX6_tile_49 rfl ?_
          refine xt_iconst (v := nI 1) C dX6_tile_50 rfl ?_
          refine xt_icmp_neN (tgt := 59) C dX6_tile_51 (by decide) (by omega) (by omega) (fun c51 => ?_) (fun c51 => ?_)
          · refine xt_iload_n C dX6_tile_59 rfl ?_
            refine xt_iconst (v := nI 2) C dX6_tile_60 rfl ?_
            refine xt_icmp_neN (tgt := 71) C dX6_tile_61 (by decide) (by omega) (by omega) (fun c61 => ?_) (fun c61 => ?_)
            · refine xt_iload_n C dX6_tile_71 rfl ?_
              refine xt_iconst (v := nI 3) C dX6_tile_72 rfl ?_
              refine xt_icmp_neN (tgt := 83) C dX6_tile_73 (by decide) (by omega) (by omega) (fun c73 => ?_) (fun c73 => ?_)
              · exact absurd rfl c73
              · refine xt_aload_n C dX6_tile_76 rfl ?_
                refine xt_get (f := 20) C xt_u6 rfl (by decide) (xt_cl49 _ _) (by decide) lkX6_41 rfl dX6_tile_77 ?_
                refine xt_iconst (v := nI 0) C dX6_tile_80 rfl ?_
                refine xt_ialdN C (by decide) (xt_cl58 _) (by decide) (by decide) (show T1.2.1 58 0 = nI (xt_gh c r sd t) from by rw [(m4 0 (by omega)).2, xt_lo_0]) dX6_tile_81 ?_
                exact xt_iret C dX6_tile_82 ⟨by decide, by decide⟩ ⟨rfl, xt_mr_0 hfr⟩
            · exact absurd c61 (by decide)
          · exact absurd c51 (by decide)
        · exact absurd c41 (by decide)
      · exact absurd ⟨nI_pos' (by decide), nI_le (by decide) (by decide)⟩ c26
    · exact absurd ⟨t, ht, rfl⟩ c10
  | 4, _ =>
    refine xt_aload_n C dX6_tile_0 rfl ?_
    refine xt_iconst (v := nI 0) C dX6_tile_1 rfl ?_
    refine xt_put (f := 0) C xt_u6 rfl (by decide) (xt_cl49 _ _) (by decide) tyX6 tyX6_ok nmX6 lkX6_74 rfl (tyX6_ok 0 (by decide)) rfl rfl (Nat.le_of_ble_eq_true rfl) rfl dX6_tile_2 ?_
    refine xt_aload_n C dX6_tile_5 rfl ?_
    refine xt_iload_n C dX6_tile_6 rfl ?_
    refine xt_cV C mv_X6_isTile lkX6_165 (ct_isTile (by exact hM9)) rfl (by decide) (xt_cl49 _ _) rfl (by decide) rfl (Nat.le_of_ble_eq_true rfl) dX6_tile_7 ?_
    refine xt_if_neB (tgt := 19) C dX6_tile_10 (by decide) (fun c10 => ?_) (fun c10 => ?_)
    · refine xt_iload_n C dX6_tile_19 rfl ?_
      refine xt_iconst (v := nI 0) C dX6_tile_20 rfl ?_
      refine xt_bipush (v := nI 8) C dX6_tile_21 (by decide) ?_
      refine xt_cS C ms_X6_in lkX6_81 ct_in rfl (by decide) rfl (Nat.le_of_ble_eq_true rfl) dX6_tile_23 ?_
      refine xt_if_neB (tgt := 35) C dX6_tile_26 (by decide) (fun c26 => ?_) (fun c26 => ?_)
      · refine xt_aload_n C dX6_tile_35 rfl ?_
        refine xt_iload_n C dX6_tile_36 rfl ?_
        refine xt_cVpn C mv_X6_looks lkX6_169 (ct_looks (by exact hM9) ht (by exact hk9)) rfl (by decide) (xt_cl49 _ _) rfl (by decide) rfl (Nat.le_of_ble_eq_true rfl) dX6_tile_37 (fun S9 hq9 => ?_)
        obtain ⟨hfr, hL0⟩ := hq9
        have hL := xt_ML_c ⟨b1, b2⟩ ⟨b3, b4⟩ b5 ht hvv hkk hL0
        rename xt_St => T1
        have hMt := hL.1
        obtain ⟨m1, m2, m3, m4, g1, g2, g3, g4, g5, g6, g7⟩ := id hMt
        refine xt_iload_n C dX6_tile_40 rfl ?_
        refine xt_if_neN (tgt := 49) C dX6_tile_41 (by decide) (by omega) (fun c41 => ?_) (fun c41 => ?_)
        · refine xt_iload_n C dX6_tile_49 rfl ?_
          refine xt_iconst (v := nI 1) C dX6_tile_50 rfl ?_
          refine xt_icmp_neN (tgt := 59) C dX6_tile_51 (by decide) (by omega) (by omega) (fun c51 => ?_) (fun c51 => ?_)
          · refine xt_iload_n C dX6_tile_59 rfl ?_
            refine xt_iconst (v := nI 2) C dX6_tile_60 rfl ?_
            refine xt_icmp_neN (tgt := 71) C dX6_tile_61 (by decide) (by omega) (by omega) (fun c61 => ?_) (fun c61 => ?_)
            · refine xt_iload_n C dX6_tile_71 rfl ?_
              refine xt_iconst (v := nI 3) C dX6_tile_72 rfl ?_
              refine xt_icmp_neN (tgt := 83) C dX6_tile_73 (by decide) (by omega) (by omega) (fun c73 => ?_) (fun c73 => ?_)
              · refine xt_iload_n C dX6_tile_83 rfl ?_
                refine xt_iconst (v := nI 4) C dX6_tile_84 rfl ?_
                refine xt_icmp_neN (tgt := 93) C dX6_tile_85 (by decide) (by omega) (by omega) (fun c85 => ?_) (fun c85 => ?_)
                · exact absurd rfl c85
                · refine xt_aload_n C dX6_tile_88 rfl ?_
                  refine xt_get (f := 18) C xt_u6 rfl (by decide) (xt_cl49 _ _) (by decide) lkX6_109 (xt_vI (by exact m3)) dX6_tile_89 ?_
                  exact xt_iret C dX6_tile_92 ⟨by decide, by decide⟩ ⟨rfl, xt_mr_0 hfr⟩
              · exact absurd c73 (by decide)
            · exact absurd c61 (by decide)
          · exact absurd c51 (by decide)
        · exact absurd c41 (by decide)
      · exact absurd ⟨nI_pos' (by decide), nI_le (by decide) (by decide)⟩ c26
    · exact absurd ⟨t, ht, rfl⟩ c10
  | 5, _ =>
    refine xt_aload_n C dX6_tile_0 rfl ?_
    refine xt_iconst (v := nI 0) C dX6_tile_1 rfl ?_
    refine xt_put (f := 0) C xt_u6 rfl (by decide) (xt_cl49 _ _) (by decide) tyX6 tyX6_ok nmX6 lkX6_74 rfl (tyX6_ok 0 (by decide)) rfl rfl (Nat.le_of_ble_eq_true rfl) rfl dX6_tile_2 ?_
    refine xt_aload_n C dX6_tile_5 rfl ?_
    refine xt_iload_n C dX6_tile_6 rfl ?_
    refine xt_cV C mv_X6_isTile lkX6_165 (ct_isTile (by exact hM9)) rfl (by decide) (xt_cl49 _ _) rfl (by decide) rfl (Nat.le_of_ble_eq_true rfl) dX6_tile_7 ?_
    refine xt_if_neB (tgt := 19) C dX6_tile_10 (by decide) (fun c10 => ?_) (fun c10 => ?_)
    · refine xt_iload_n C dX6_tile_19 rfl ?_
      refine xt_iconst (v := nI 0) C dX6_tile_20 rfl ?_
      refine xt_bipush (v := nI 8) C dX6_tile_21 (by decide) ?_
      refine xt_cS C ms_X6_in lkX6_81 ct_in rfl (by decide) rfl (Nat.le_of_ble_eq_true rfl) dX6_tile_23 ?_
      refine xt_if_neB (tgt := 35) C dX6_tile_26 (by decide) (fun c26 => ?_) (fun c26 => ?_)
      · refine xt_aload_n C dX6_tile_35 rfl ?_
        refine xt_iload_n C dX6_tile_36 rfl ?_
        refine xt_cVpn C mv_X6_looks lkX6_169 (ct_looks (by exact hM9) ht (by exact hk9)) rfl (by decide) (xt_cl49 _ _) rfl (by decide) rfl (Nat.le_of_ble_eq_true rfl) dX6_tile_37 (fun S9 hq9 => ?_)
        obtain ⟨hfr, hL0⟩ := hq9
        have hL := xt_ML_c ⟨b1, b2⟩ ⟨b3, b4⟩ b5 ht hvv hkk hL0
        rename xt_St => T1
        have hMt := hL.1
        obtain ⟨m1, m2, m3, m4, g1, g2, g3, g4, g5, g6, g7⟩ := id hMt
        refine xt_iload_n C dX6_tile_40 rfl ?_
        refine xt_if_neN (tgt := 49) C dX6_tile_41 (by decide) (by omega) (fun c41 => ?_) (fun c41 => ?_)
        · refine xt_iload_n C dX6_tile_49 rfl ?_
          refine xt_iconst (v := nI 1) C dX6_tile_50 rfl ?_
          refine xt_icmp_neN (tgt := 59) C dX6_tile_51 (by decide) (by omega) (by omega) (fun c51 => ?_) (fun c51 => ?_)
          · refine xt_iload_n C dX6_tile_59 rfl ?_
            refine xt_iconst (v := nI 2) C dX6_tile_60 rfl ?_
            refine xt_icmp_neN (tgt := 71) C dX6_tile_61 (by decide) (by omega) (by omega) (fun c61 => ?_) (fun c61 => ?_)
            · refine xt_iload_n C dX6_tile_71 rfl ?_
              refine xt_iconst (v := nI 3) C dX6_tile_72 rfl ?_
              refine xt_icmp_neN (tgt := 83) C dX6_tile_73 (by decide) (by omega) (by omega) (fun c73 => ?_) (fun c73 => ?_)
              · refine xt_iload_n C dX6_tile_83 rfl ?_
                refine xt_iconst (v := nI 4) C dX6_tile_84 rfl ?_
                refine xt_icmp_neN (tgt := 93) C dX6_tile_85 (by decide) (by omega) (by omega) (fun c85 => ?_) (fun c85 => ?_)
                · refine xt_iconst (v := nI 0) C dX6_tile_93 rfl ?_
                  refine xt_istore_n (lo' := [_, _, _, _, _, _]) C dX6_tile_94 (Nat.le_of_ble_eq_true rfl) rfl rfl ?_
                  refine xt_iconst (v := nI 0) C dX6_tile_95 rfl ?_
                  refine xt_istore (lo' := [_, _, _, _, _, _]) C dX6_tile_96 (Nat.le_of_ble_eq_true rfl) rfl rfl ?_
                  have out1 : ∀ (d1 y : Nat), y ≤ (xt_gh c r sd t) →  (xt_gh c r sd t) + 1 ≤ y + d1 → xt_X E cx (xt_ZM E cx 0 0 (xt_Ep (some (.int (xt_til c r sd lv t v k 5))) (xt_mr S 0))) 0 0 98 [some (.ref (E.1 49)), some (.int (nI t)), some (.int (nI 5)), some (.int (xt_it (fun y s => xt_it (fun x s => s + (k (((xt_gt c sd t) + y) * c + ((xt_gl c sd t) + x)))) (xt_gw c sd t) s) y 0)), some (.int (nI y)), none] [] T1 := by
                    intro d1
                    induction d1 with
                    | zero => intro y  h0y  h1y; exact absurd h1y (by omega)
                    | succ d1 ih1 =>
                      intro y  h0y  h1y
                      refine xt_iload C dX6_tile_98 rfl ?_
                      refine xt_aload_n C dX6_tile_100 rfl ?_
                      refine xt_get (f := 20) C xt_u6 rfl (by decide) (xt_cl49 _ _) (by decide) lkX6_41 rfl dX6_tile_101 ?_
                      refine xt_iconst (v := nI 0) C dX6_tile_104 rfl ?_
                      refine xt_ialdN C (by decide) (xt_cl58 _) (by decide) (by decide) (show T1.2.1 58 0 = nI (xt_gh c r sd t) from by rw [(m4 0 (by omega)).2, xt_lo_0]) dX6_tile_105 ?_
                      refine xt_icmp_geN (tgt := 249) C dX6_tile_106 (by decide) (by omega) (by omega) (fun c106 => ?_) (fun c106 => ?_)
                      · refine xt_iload_n C dX6_tile_249 rfl ?_
                        exact xt_iret C dX6_tile_250 ⟨by decide, by decide⟩ ⟨by rw [show y = (xt_gh c r sd t) by omega]; rfl, xt_mr_0 hfr⟩
                      · refine xt_iconst (v := nI 0) C dX6_tile_109 rfl ?_
                        refine xt_istore (lo' := [_, _, _, _, _, _]) C dX6_tile_110 (Nat.le_of_ble_eq_true rfl) rfl rfl ?_
                        have in2 : ∀ (d2 x : Nat), x ≤ (xt_gw c sd t) →  (xt_gw c sd t) + 1 ≤ x + d2 → xt_X E cx (xt_ZM E cx 0 0 (xt_Ep (some (.int (xt_til c r sd lv t v k 5))) (xt_mr S 0))) 0 0 112 [some (.ref (E.1 49)), some (.int (nI t)), some (.int (nI 5)), some (.int (xt_it (fun x s => s + (k (((xt_gt c sd t) + y) * c + ((xt_gl c sd t) + x)))) x (xt_it (fun y s => xt_it (fun x s => s + (k (((xt_gt c sd t) + y) * c + ((xt_gl c sd t) + x)))) (xt_gw c sd t) s) y 0))), some (.int (nI y)), some (.int (nI x))] [] T1 := by
                          intro d2
                          induction d2 with
                          | zero => intro x  h0x  h1x; exact absurd h1x (by omega)
                          | succ d2 ih2 =>
                            intro x  h0x  h1x
                            refine xt_iload C dX6_tile_112 rfl ?_
                            refine xt_aload_n C dX6_tile_114 rfl ?_
                            refine xt_get (f := 19) C xt_u6 rfl (by decide) (xt_cl49 _ _) (by decide) lkX6_38 rfl dX6_tile_115 ?_
                            refine xt_iconst (v := nI 0) C dX6_tile_118 rfl ?_
                            refine xt_ialdN C (by decide) (xt_cl57 _) (by decide) (by decide) (show T1.2.1 57 0 = nI (xt_gw c sd t) from by rw [(m4 0 (by omega)).1, xt_lo_0]) dX6_tile_119 ?_
                            refine xt_icmp_geN (tgt := 243) C dX6_tile_120 (by decide) (by omega) (by omega) (fun c120 => ?_) (fun c120 => ?_)
                            · refine xt_iincN (z := 1) (lo' := [_, _, _, _, _, _]) C dX6_tile_243 rfl rfl rfl ?_
                              refine xt_goto (tgt := 98) C dX6_tile_246 (by decide) ?_
                              have hx9 : x = (xt_gw c sd t) := by omega
                              subst hx9
                              exact xt_fg (by repeat' constructor) (ih1 (y + 1) (by omega)  (by omega))
                            · have hix := (xt_ix (c := c) (r := r) (x := (xt_gl c sd t) + x) (y := (xt_gt c sd t) + y) (by omega) (by omega) b2 b4).1
                              have e9 : 261 + c * ((xt_gt c sd t) + y) + (xt_gl c sd t) + x = 261 + (((xt_gt c sd t) + y) * c + ((xt_gl c sd t) + x)) := by rw [Nat.mul_comm ((xt_gt c sd t) + y) c]; omega
                              refine xt_iload_n C dX6_tile_123 rfl ?_
                              refine xt_iconst (v := nI 5) C dX6_tile_124 rfl ?_
                              refine xt_icmp_neN (tgt := 160) C dX6_tile_125 (by decide) (by omega) (by omega) (fun c125 => ?_) (fun c125 => ?_)
                              · exact absurd rfl c125
                              · refine xt_iload_n C dX6_tile_128 rfl ?_
                                refine xt_aload_n C dX6_tile_129 rfl ?_
                                refine xt_get (f := 1) C xt_u6 rfl (by decide) (xt_cl49 _ _) (by decide) lkX6_9 rfl dX6_tile_130 ?_
                                refine xt_sipush (v := nI 261) C dX6_tile_133 (by decide) ?_
                                refine xt_aload_n C dX6_tile_136 rfl ?_
                                refine xt_cV C mv_X6_columns lkX6_77 (ct_mcol (by exact xt_mfr_Mp hfr hM9)) rfl (by decide) (xt_cl49 _ _) rfl (by decide) rfl (Nat.le_of_ble_eq_true rfl) dX6_tile_137 ?_
                                refine xt_aload_n C dX6_tile_140 rfl ?_
                                refine xt_get (f := 17) C xt_u6 rfl (by decide) (xt_cl49 _ _) (by decide) lkX6_100 (xt_vI (by exact m2)) dX6_tile_141 ?_
                                refine xt_iload C dX6_tile_144 rfl ?_
                                refine xt_iaddN C dX6_tile_146 ?_
                                refine xt_imulN C dX6_tile_147 ?_
                                refine xt_iaddN C dX6_tile_148 ?_
                                refine xt_aload_n C dX6_tile_149 rfl ?_
                                refine xt_get (f := 16) C xt_u6 rfl (by decide) (xt_cl49 _ _) (by decide) lkX6_97 (xt_vI (by exact m1)) dX6_tile_150 ?_
                                refine xt_iaddN C dX6_tile_153 ?_
                                refine xt_iload C dX6_tile_154 rfl ?_
                                refine xt_iaddN C dX6_tile_156 ?_
                                refine xt_ialdN C (by decide) (xt_cl50 _) (by rw [e9]; omega) (by decide) (show T1.2.1 50 (261 + c * ((xt_gt c sd t) + y) + (xt_gl c sd t) + x) = k (((xt_gt c sd t) + y) * c + ((xt_gl c sd t) + x)) from by rw [e9, hfr.2.1 50 (by omega)]; exact hkk _ hix) dX6_tile_157 ?_
                                refine xt_iadd C dX6_tile_158 ?_
                                refine xt_istore_n (lo' := [_, _, _, _, _, _]) C dX6_tile_159 (Nat.le_of_ble_eq_true rfl) rfl rfl ?_
                                refine xt_iload_n C dX6_tile_160 rfl ?_
                                refine xt_bipush (v := nI 6) C dX6_tile_161 (by decide) ?_
                                refine xt_icmp_neN (tgt := 185) C dX6_tile_163 (by decide) (by omega) (by omega) (fun c163 => ?_) (fun c163 => ?_)
                                · refine xt_iload_n C dX6_tile_185 rfl ?_
                                  refine xt_bipush (v := nI 7) C dX6_tile_186 (by decide) ?_
                                  refine xt_icmp_neN (tgt := 210) C dX6_tile_188 (by decide) (by omega) (by omega) (fun c188 => ?_) (fun c188 => ?_)
                                  · refine xt_iload_n C dX6_tile_210 rfl ?_
                                    refine xt_bipush (v := nI 8) C dX6_tile_211 (by decide) ?_
                                    refine xt_icmp_neN (tgt := 237) C dX6_tile_213 (by decide) (by omega) (by omega) (fun c213 => ?_) (fun c213 => ?_)
                                    · refine xt_iincN (z := 1) (lo' := [_, _, _, _, _, _]) C dX6_tile_237 rfl rfl rfl ?_
                                      refine xt_goto (tgt := 112) C dX6_tile_240 (by decide) ?_
                                      have h9 := ih2 (x + 1) (by omega)  (by omega)
                                      exact xt_fg (by repeat' constructor) h9
                                    · exact absurd c213 (by decide)
                                  · exact absurd c188 (by decide)
                                · exact absurd c163 (by decide)
                        exact xt_fg (by repeat' constructor) (in2 ((xt_gw c sd t) + 1) 0 (by omega)  (by omega))
                  exact xt_fg (by repeat' constructor) (out1 ((xt_gh c r sd t) + 1) 0 (by omega) (by omega))
                · exact absurd c85 (by decide)
              · exact absurd c73 (by decide)
            · exact absurd c61 (by decide)
          · exact absurd c51 (by decide)
        · exact absurd c41 (by decide)
      · exact absurd ⟨nI_pos' (by decide), nI_le (by decide) (by decide)⟩ c26
    · exact absurd ⟨t, ht, rfl⟩ c10
  | 6, _ =>
    refine xt_aload_n C dX6_tile_0 rfl ?_
    refine xt_iconst (v := nI 0) C dX6_tile_1 rfl ?_
    refine xt_put (f := 0) C xt_u6 rfl (by decide) (xt_cl49 _ _) (by decide) tyX6 tyX6_ok nmX6 lkX6_74 rfl (tyX6_ok 0 (by decide)) rfl rfl (Nat.le_of_ble_eq_true rfl) rfl dX6_tile_2 ?_
    refine xt_aload_n C dX6_tile_5 rfl ?_
    refine xt_iload_n C dX6_tile_6 rfl ?_
    refine xt_cV C mv_X6_isTile lkX6_165 (ct_isTile (by exact hM9)) rfl (by decide) (xt_cl49 _ _) rfl (by decide) rfl (Nat.le_of_ble_eq_true rfl) dX6_tile_7 ?_
    refine xt_if_neB (tgt := 19) C dX6_tile_10 (by decide) (fun c10 => ?_) (fun c10 => ?_)
    · refine xt_iload_n C dX6_tile_19 rfl ?_
      refine xt_iconst (v := nI 0) C dX6_tile_20 rfl ?_
      refine xt_bipush (v := nI 8) C dX6_tile_21 (by decide) ?_
      refine xt_cS C ms_X6_in lkX6_81 ct_in rfl (by decide) rfl (Nat.le_of_ble_eq_true rfl) dX6_tile_23 ?_
      refine xt_if_neB (tgt := 35) C dX6_tile_26 (by decide) (fun c26 => ?_) (fun c26 => ?_)
      · refine xt_aload_n C dX6_tile_35 rfl ?_
        refine xt_iload_n C dX6_tile_36 rfl ?_
        refine xt_cVpn C mv_X6_looks lkX6_169 (ct_looks (by exact hM9) ht (by exact hk9)) rfl (by decide) (xt_cl49 _ _) rfl (by decide) rfl (Nat.le_of_ble_eq_true rfl) dX6_tile_37 (fun S9 hq9 => ?_)
        obtain ⟨hfr, hL0⟩ := hq9
        have hL := xt_ML_c ⟨b1, b2⟩ ⟨b3, b4⟩ b5 ht hvv hkk hL0
        rename xt_St => T1
        have hMt := hL.1
        obtain ⟨m1, m2, m3, m4, g1, g2, g3, g4, g5, g6, g7⟩ := id hMt
        refine xt_iload_n C dX6_tile_40 rfl ?_
        refine xt_if_neN (tgt := 49) C dX6_tile_41 (by decide) (by omega) (fun c41 => ?_) (fun c41 => ?_)
        · refine xt_iload_n C dX6_tile_49 rfl ?_
          refine xt_iconst (v := nI 1) C dX6_tile_50 rfl ?_
          refine xt_icmp_neN (tgt := 59) C dX6_tile_51 (by decide) (by omega) (by omega) (fun c51 => ?_) (fun c51 => ?_)
          · refine xt_iload_n C dX6_tile_59 rfl ?_
            refine xt_iconst (v := nI 2) C dX6_tile_60 rfl ?_
            refine xt_icmp_neN (tgt := 71) C dX6_tile_61 (by decide) (by omega) (by omega) (fun c61 => ?_) (fun c61 => ?_)
            · refine xt_iload_n C dX6_tile_71 rfl ?_
              refine xt_iconst (v := nI 3) C dX6_tile_72 rfl ?_
              refine xt_icmp_neN (tgt := 83) C dX6_tile_73 (by decide) (by omega) (by omega) (fun c73 => ?_) (fun c73 => ?_)
              · refine xt_iload_n C dX6_tile_83 rfl ?_
                refine xt_iconst (v := nI 4) C dX6_tile_84 rfl ?_
                refine xt_icmp_neN (tgt := 93) C dX6_tile_85 (by decide) (by omega) (by omega) (fun c85 => ?_) (fun c85 => ?_)
                · refine xt_iconst (v := nI 0) C dX6_tile_93 rfl ?_
                  refine xt_istore_n (lo' := [_, _, _, _, _, _]) C dX6_tile_94 (Nat.le_of_ble_eq_true rfl) rfl rfl ?_
                  refine xt_iconst (v := nI 0) C dX6_tile_95 rfl ?_
                  refine xt_istore (lo' := [_, _, _, _, _, _]) C dX6_tile_96 (Nat.le_of_ble_eq_true rfl) rfl rfl ?_
                  have out1 : ∀ (d1 y : Nat), y ≤ (xt_gh c r sd t) →  (xt_gh c r sd t) + 1 ≤ y + d1 → xt_X E cx (xt_ZM E cx 0 0 (xt_Ep (some (.int (xt_til c r sd lv t v k 6))) (xt_mr S 0))) 0 0 98 [some (.ref (E.1 49)), some (.int (nI t)), some (.int (nI 6)), some (.int (xt_it (fun y s => xt_it (fun x s => xt_ci (¬ nI (xt_tM c r sd lv t k (8 * y + x)) = 0) s) (xt_gw c sd t) s) y 0)), some (.int (nI y)), none] [] T1 := by
                    intro d1
                    induction d1 with
                    | zero => intro y  h0y  h1y; exact absurd h1y (by omega)
                    | succ d1 ih1 =>
                      intro y  h0y  h1y
                      refine xt_iload C dX6_tile_98 rfl ?_
                      refine xt_aload_n C dX6_tile_100 rfl ?_
                      refine xt_get (f := 20) C xt_u6 rfl (by decide) (xt_cl49 _ _) (by decide) lkX6_41 rfl dX6_tile_101 ?_
                      refine xt_iconst (v := nI 0) C dX6_tile_104 rfl ?_
                      refine xt_ialdN C (by decide) (xt_cl58 _) (by decide) (by decide) (show T1.2.1 58 0 = nI (xt_gh c r sd t) from by rw [(m4 0 (by omega)).2, xt_lo_0]) dX6_tile_105 ?_
                      refine xt_icmp_geN (tgt := 249) C dX6_tile_106 (by decide) (by omega) (by omega) (fun c106 => ?_) (fun c106 => ?_)
                      · refine xt_iload_n C dX6_tile_249 rfl ?_
                        exact xt_iret C dX6_tile_250 ⟨by decide, by decide⟩ ⟨by rw [show y = (xt_gh c r sd t) by omega]; rfl, xt_mr_0 hfr⟩
                      · refine xt_iconst (v := nI 0) C dX6_tile_109 rfl ?_
                        refine xt_istore (lo' := [_, _, _, _, _, _]) C dX6_tile_110 (Nat.le_of_ble_eq_true rfl) rfl rfl ?_
                        have in2 : ∀ (d2 x : Nat), x ≤ (xt_gw c sd t) →  (xt_gw c sd t) + 1 ≤ x + d2 → xt_X E cx (xt_ZM E cx 0 0 (xt_Ep (some (.int (xt_til c r sd lv t v k 6))) (xt_mr S 0))) 0 0 112 [some (.ref (E.1 49)), some (.int (nI t)), some (.int (nI 6)), some (.int (xt_it (fun x s => xt_ci (¬ nI (xt_tM c r sd lv t k (8 * y + x)) = 0) s) x (xt_it (fun y s => xt_it (fun x s => xt_ci (¬ nI (xt_tM c r sd lv t k (8 * y + x)) = 0) s) (xt_gw c sd t) s) y 0))), some (.int (nI y)), some (.int (nI x))] [] T1 := by
                          intro d2
                          induction d2 with
                          | zero => intro x  h0x  h1x; exact absurd h1x (by omega)
                          | succ d2 ih2 =>
                            intro x  h0x  h1x
                            refine xt_iload C dX6_tile_112 rfl ?_
                            refine xt_aload_n C dX6_tile_114 rfl ?_
                            refine xt_get (f := 19) C xt_u6 rfl (by decide) (xt_cl49 _ _) (by decide) lkX6_38 rfl dX6_tile_115 ?_
                            refine xt_iconst (v := nI 0) C dX6_tile_118 rfl ?_
                            refine xt_ialdN C (by decide) (xt_cl57 _) (by decide) (by decide) (show T1.2.1 57 0 = nI (xt_gw c sd t) from by rw [(m4 0 (by omega)).1, xt_lo_0]) dX6_tile_119 ?_
                            refine xt_icmp_geN (tgt := 243) C dX6_tile_120 (by decide) (by omega) (by omega) (fun c120 => ?_) (fun c120 => ?_)
                            · refine xt_iincN (z := 1) (lo' := [_, _, _, _, _, _]) C dX6_tile_243 rfl rfl rfl ?_
                              refine xt_goto (tgt := 98) C dX6_tile_246 (by decide) ?_
                              have hx9 : x = (xt_gw c sd t) := by omega
                              subst hx9
                              exact xt_fg (by repeat' constructor) (ih1 (y + 1) (by omega)  (by omega))
                            · have hix := (xt_ix (c := c) (r := r) (x := (xt_gl c sd t) + x) (y := (xt_gt c sd t) + y) (by omega) (by omega) b2 b4).1
                              refine xt_iload_n C dX6_tile_123 rfl ?_
                              refine xt_iconst (v := nI 5) C dX6_tile_124 rfl ?_
                              refine xt_icmp_neN (tgt := 160) C dX6_tile_125 (by decide) (by omega) (by omega) (fun c125 => ?_) (fun c125 => ?_)
                              · refine xt_iload_n C dX6_tile_160 rfl ?_
                                refine xt_bipush (v := nI 6) C dX6_tile_161 (by decide) ?_
                                refine xt_icmp_neN (tgt := 185) C dX6_tile_163 (by decide) (by omega) (by omega) (fun c163 => ?_) (fun c163 => ?_)
                                · exact absurd rfl c163
                                · refine xt_aload_n C dX6_tile_166 rfl ?_
                                  refine xt_get (f := 22) C xt_u6 rfl (by decide) (xt_cl49 _ _) (by decide) lkX6_47 rfl dX6_tile_167 ?_
                                  refine xt_aload_n C dX6_tile_170 rfl ?_
                                  refine xt_iload C dX6_tile_171 rfl ?_
                                  refine xt_iload C dX6_tile_173 rfl ?_
                                  refine xt_cV C mv_X6_place lkX6_116 ct_mplace rfl (by decide) (xt_cl49 _ _) rfl (by decide) rfl (Nat.le_of_ble_eq_true rfl) dX6_tile_175 ?_
                                  refine xt_zaldN C (by decide) (xt_cl60 _) (by omega) (by decide) (hL.2 y x (by omega) (by omega)).2 dX6_tile_178 ?_
                                  refine xt_if_eq (tgt := 185) C dX6_tile_179 (by decide) (fun c179 => ?_) (fun c179 => ?_)
                                  · refine xt_iload_n C dX6_tile_185 rfl ?_
                                    refine xt_bipush (v := nI 7) C dX6_tile_186 (by decide) ?_
                                    refine xt_icmp_neN (tgt := 210) C dX6_tile_188 (by decide) (by omega) (by omega) (fun c188 => ?_) (fun c188 => ?_)
                                    · refine xt_iload_n C dX6_tile_210 rfl ?_
                                      refine xt_bipush (v := nI 8) C dX6_tile_211 (by decide) ?_
                                      refine xt_icmp_neN (tgt := 237) C dX6_tile_213 (by decide) (by omega) (by omega) (fun c213 => ?_) (fun c213 => ?_)
                                      · refine xt_iincN (z := 1) (lo' := [_, _, _, _, _, _]) C dX6_tile_237 rfl rfl rfl ?_
                                        refine xt_goto (tgt := 112) C dX6_tile_240 (by decide) ?_
                                        have h9 := ih2 (x + 1) (by omega)  (by omega)
                                        rw [show xt_it (fun x s => xt_ci (¬ nI (xt_tM c r sd lv t k (8 * y + x)) = 0) s) (x + 1) (xt_it (fun y s => xt_it (fun x s => xt_ci (¬ nI (xt_tM c r sd lv t k (8 * y + x)) = 0) s) (xt_gw c sd t) s) y 0) = xt_ci (¬ nI (xt_tM c r sd lv t k (8 * y + x)) = 0) (xt_it (fun x s => xt_ci (¬ nI (xt_tM c r sd lv t k (8 * y + x)) = 0) s) x (xt_it (fun y s => xt_it (fun x s => xt_ci (¬ nI (xt_tM c r sd lv t k (8 * y + x)) = 0) s) (xt_gw c sd t) s) y 0)) from rfl] at h9
                                        first
                                        | rw [xt_ci1 c179] at h9
                                        | rw [xt_ci0 (fun z => z c179)] at h9
                                        exact xt_fg (by repeat' constructor) h9
                                      · exact absurd c213 (by decide)
                                    · exact absurd c188 (by decide)
                                  · refine xt_iinc (lo' := [_, _, _, _, _, _]) C dX6_tile_182 rfl rfl rfl rfl ?_
                                    refine xt_iload_n C dX6_tile_185 rfl ?_
                                    refine xt_bipush (v := nI 7) C dX6_tile_186 (by decide) ?_
                                    refine xt_icmp_neN (tgt := 210) C dX6_tile_188 (by decide) (by omega) (by omega) (fun c188 => ?_) (fun c188 => ?_)
                                    · refine xt_iload_n C dX6_tile_210 rfl ?_
                                      refine xt_bipush (v := nI 8) C dX6_tile_211 (by decide) ?_
                                      refine xt_icmp_neN (tgt := 237) C dX6_tile_213 (by decide) (by omega) (by omega) (fun c213 => ?_) (fun c213 => ?_)
                                      · refine xt_iincN (z := 1) (lo' := [_, _, _, _, _, _]) C dX6_tile_237 rfl rfl rfl ?_
                                        refine xt_goto (tgt := 112) C dX6_tile_240 (by decide) ?_
                                        have h9 := ih2 (x + 1) (by omega)  (by omega)
                                        rw [show xt_it (fun x s => xt_ci (¬ nI (xt_tM c r sd lv t k (8 * y + x)) = 0) s) (x + 1) (xt_it (fun y s => xt_it (fun x s => xt_ci (¬ nI (xt_tM c r sd lv t k (8 * y + x)) = 0) s) (xt_gw c sd t) s) y 0) = xt_ci (¬ nI (xt_tM c r sd lv t k (8 * y + x)) = 0) (xt_it (fun x s => xt_ci (¬ nI (xt_tM c r sd lv t k (8 * y + x)) = 0) s) x (xt_it (fun y s => xt_it (fun x s => xt_ci (¬ nI (xt_tM c r sd lv t k (8 * y + x)) = 0) s) (xt_gw c sd t) s) y 0)) from rfl] at h9
                                        first
                                        | rw [xt_ci1 c179] at h9
                                        | rw [xt_ci0 (fun z => z c179)] at h9
                                        exact xt_fg (by repeat' constructor) h9
                                      · exact absurd c213 (by decide)
                                    · exact absurd c188 (by decide)
                              · exact absurd c125 (by decide)
                        exact xt_fg (by repeat' constructor) (in2 ((xt_gw c sd t) + 1) 0 (by omega)  (by omega))
                  exact xt_fg (by repeat' constructor) (out1 ((xt_gh c r sd t) + 1) 0 (by omega) (by omega))
                · exact absurd c85 (by decide)
              · exact absurd c73 (by decide)
            · exact absurd c61 (by decide)
          · exact absurd c51 (by decide)
        · exact absurd c41 (by decide)
      · exact absurd ⟨nI_pos' (by decide), nI_le (by decide) (by decide)⟩ c26
    · exact absurd ⟨t, ht, rfl⟩ c10
  | 7, _ =>
    refine xt_aload_n C dX6_tile_0 rfl ?_
    refine xt_iconst (v := nI 0) C dX6_tile_1 rfl ?_
    refine xt_put (f := 0) C xt_u6 rfl (by decide) (xt_cl49 _ _) (by decide) tyX6 tyX6_ok nmX6 lkX6_74 rfl (tyX6_ok 0 (by decide)) rfl rfl (Nat.le_of_ble_eq_true rfl) rfl dX6_tile_2 ?_
    refine xt_aload_n C dX6_tile_5 rfl ?_
    refine xt_iload_n C dX6_tile_6 rfl ?_
    refine xt_cV C mv_X6_isTile lkX6_165 (ct_isTile (by exact hM9)) rfl (by decide) (xt_cl49 _ _) rfl (by decide) rfl (Nat.le_of_ble_eq_true rfl) dX6_tile_7 ?_
    refine xt_if_neB (tgt := 19) C dX6_tile_10 (by decide) (fun c10 => ?_) (fun c10 => ?_)
    · refine xt_iload_n C dX6_tile_19 rfl ?_
      refine xt_iconst (v := nI 0) C dX6_tile_20 rfl ?_
      refine xt_bipush (v := nI 8) C dX6_tile_21 (by decide) ?_
      refine xt_cS C ms_X6_in lkX6_81 ct_in rfl (by decide) rfl (Nat.le_of_ble_eq_true rfl) dX6_tile_23 ?_
      refine xt_if_neB (tgt := 35) C dX6_tile_26 (by decide) (fun c26 => ?_) (fun c26 => ?_)
      · refine xt_aload_n C dX6_tile_35 rfl ?_
        refine xt_iload_n C dX6_tile_36 rfl ?_
        refine xt_cVpn C mv_X6_looks lkX6_169 (ct_looks (by exact hM9) ht (by exact hk9)) rfl (by decide) (xt_cl49 _ _) rfl (by decide) rfl (Nat.le_of_ble_eq_true rfl) dX6_tile_37 (fun S9 hq9 => ?_)
        obtain ⟨hfr, hL0⟩ := hq9
        have hL := xt_ML_c ⟨b1, b2⟩ ⟨b3, b4⟩ b5 ht hvv hkk hL0
        rename xt_St => T1
        have hMt := hL.1
        obtain ⟨m1, m2, m3, m4, g1, g2, g3, g4, g5, g6, g7⟩ := id hMt
        refine xt_iload_n C dX6_tile_40 rfl ?_
        refine xt_if_neN (tgt := 49) C dX6_tile_41 (by decide) (by omega) (fun c41 => ?_) (fun c41 => ?_)
        · refine xt_iload_n C dX6_tile_49 rfl ?_
          refine xt_iconst (v := nI 1) C dX6_tile_50 rfl ?_
          refine xt_icmp_neN (tgt := 59) C dX6_tile_51 (by decide) (by omega) (by omega) (fun c51 => ?_) (fun c51 => ?_)
          · refine xt_iload_n C dX6_tile_59 rfl ?_
            refine xt_iconst (v := nI 2) C dX6_tile_60 rfl ?_
            refine xt_icmp_neN (tgt := 71) C dX6_tile_61 (by decide) (by omega) (by omega) (fun c61 => ?_) (fun c61 => ?_)
            · refine xt_iload_n C dX6_tile_71 rfl ?_
              refine xt_iconst (v := nI 3) C dX6_tile_72 rfl ?_
              refine xt_icmp_neN (tgt := 83) C dX6_tile_73 (by decide) (by omega) (by omega) (fun c73 => ?_) (fun c73 => ?_)
              · refine xt_iload_n C dX6_tile_83 rfl ?_
                refine xt_iconst (v := nI 4) C dX6_tile_84 rfl ?_
                refine xt_icmp_neN (tgt := 93) C dX6_tile_85 (by decide) (by omega) (by omega) (fun c85 => ?_) (fun c85 => ?_)
                · refine xt_iconst (v := nI 0) C dX6_tile_93 rfl ?_
                  refine xt_istore_n (lo' := [_, _, _, _, _, _]) C dX6_tile_94 (Nat.le_of_ble_eq_true rfl) rfl rfl ?_
                  refine xt_iconst (v := nI 0) C dX6_tile_95 rfl ?_
                  refine xt_istore (lo' := [_, _, _, _, _, _]) C dX6_tile_96 (Nat.le_of_ble_eq_true rfl) rfl rfl ?_
                  have out1 : ∀ (d1 y : Nat), y ≤ (xt_gh c r sd t) →  (xt_gh c r sd t) + 1 ≤ y + d1 → xt_X E cx (xt_ZM E cx 0 0 (xt_Ep (some (.int (xt_til c r sd lv t v k 7))) (xt_mr S 0))) 0 0 98 [some (.ref (E.1 49)), some (.int (nI t)), some (.int (nI 7)), some (.int (xt_it (fun y s => xt_it (fun x s => xt_ci (¬ xt_tC c r sd lv t v (8 * y + x) = 0) s) (xt_gw c sd t) s) y 0)), some (.int (nI y)), none] [] T1 := by
                    intro d1
                    induction d1 with
                    | zero => intro y  h0y  h1y; exact absurd h1y (by omega)
                    | succ d1 ih1 =>
                      intro y  h0y  h1y
                      refine xt_iload C dX6_tile_98 rfl ?_
                      refine xt_aload_n C dX6_tile_100 rfl ?_
                      refine xt_get (f := 20) C xt_u6 rfl (by decide) (xt_cl49 _ _) (by decide) lkX6_41 rfl dX6_tile_101 ?_
                      refine xt_iconst (v := nI 0) C dX6_tile_104 rfl ?_
                      refine xt_ialdN C (by decide) (xt_cl58 _) (by decide) (by decide) (show T1.2.1 58 0 = nI (xt_gh c r sd t) from by rw [(m4 0 (by omega)).2, xt_lo_0]) dX6_tile_105 ?_
                      refine xt_icmp_geN (tgt := 249) C dX6_tile_106 (by decide) (by omega) (by omega) (fun c106 => ?_) (fun c106 => ?_)
                      · refine xt_iload_n C dX6_tile_249 rfl ?_
                        exact xt_iret C dX6_tile_250 ⟨by decide, by decide⟩ ⟨by rw [show y = (xt_gh c r sd t) by omega]; rfl, xt_mr_0 hfr⟩
                      · refine xt_iconst (v := nI 0) C dX6_tile_109 rfl ?_
                        refine xt_istore (lo' := [_, _, _, _, _, _]) C dX6_tile_110 (Nat.le_of_ble_eq_true rfl) rfl rfl ?_
                        have in2 : ∀ (d2 x : Nat), x ≤ (xt_gw c sd t) →  (xt_gw c sd t) + 1 ≤ x + d2 → xt_X E cx (xt_ZM E cx 0 0 (xt_Ep (some (.int (xt_til c r sd lv t v k 7))) (xt_mr S 0))) 0 0 112 [some (.ref (E.1 49)), some (.int (nI t)), some (.int (nI 7)), some (.int (xt_it (fun x s => xt_ci (¬ xt_tC c r sd lv t v (8 * y + x) = 0) s) x (xt_it (fun y s => xt_it (fun x s => xt_ci (¬ xt_tC c r sd lv t v (8 * y + x) = 0) s) (xt_gw c sd t) s) y 0))), some (.int (nI y)), some (.int (nI x))] [] T1 := by
                          intro d2
                          induction d2 with
                          | zero => intro x  h0x  h1x; exact absurd h1x (by omega)
                          | succ d2 ih2 =>
                            intro x  h0x  h1x
                            refine xt_iload C dX6_tile_112 rfl ?_
                            refine xt_aload_n C dX6_tile_114 rfl ?_
                            refine xt_get (f := 19) C xt_u6 rfl (by decide) (xt_cl49 _ _) (by decide) lkX6_38 rfl dX6_tile_115 ?_
                            refine xt_iconst (v := nI 0) C dX6_tile_118 rfl ?_
                            refine xt_ialdN C (by decide) (xt_cl57 _) (by decide) (by decide) (show T1.2.1 57 0 = nI (xt_gw c sd t) from by rw [(m4 0 (by omega)).1, xt_lo_0]) dX6_tile_119 ?_
                            refine xt_icmp_geN (tgt := 243) C dX6_tile_120 (by decide) (by omega) (by omega) (fun c120 => ?_) (fun c120 => ?_)
                            · refine xt_iincN (z := 1) (lo' := [_, _, _, _, _, _]) C dX6_tile_243 rfl rfl rfl ?_
                              refine xt_goto (tgt := 98) C dX6_tile_246 (by decide) ?_
                              have hx9 : x = (xt_gw c sd t) := by omega
                              subst hx9
                              exact xt_fg (by repeat' constructor) (ih1 (y + 1) (by omega)  (by omega))
                            · have hix := (xt_ix (c := c) (r := r) (x := (xt_gl c sd t) + x) (y := (xt_gt c sd t) + y) (by omega) (by omega) b2 b4).1
                              refine xt_iload_n C dX6_tile_123 rfl ?_
                              refine xt_iconst (v := nI 5) C dX6_tile_124 rfl ?_
                              refine xt_icmp_neN (tgt := 160) C dX6_tile_125 (by decide) (by omega) (by omega) (fun c125 => ?_) (fun c125 => ?_)
                              · refine xt_iload_n C dX6_tile_160 rfl ?_
                                refine xt_bipush (v := nI 6) C dX6_tile_161 (by decide) ?_
                                refine xt_icmp_neN (tgt := 185) C dX6_tile_163 (by decide) (by omega) (by omega) (fun c163 => ?_) (fun c163 => ?_)
                                · refine xt_iload_n C dX6_tile_185 rfl ?_
                                  refine xt_bipush (v := nI 7) C dX6_tile_186 (by decide) ?_
                                  refine xt_icmp_neN (tgt := 210) C dX6_tile_188 (by decide) (by omega) (by omega) (fun c188 => ?_) (fun c188 => ?_)
                                  · exact absurd rfl c188
                                  · refine xt_aload_n C dX6_tile_191 rfl ?_
                                    refine xt_get (f := 21) C xt_u6 rfl (by decide) (xt_cl49 _ _) (by decide) lkX6_44 rfl dX6_tile_192 ?_
                                    refine xt_aload_n C dX6_tile_195 rfl ?_
                                    refine xt_iload C dX6_tile_196 rfl ?_
                                    refine xt_iload C dX6_tile_198 rfl ?_
                                    refine xt_cV C mv_X6_place lkX6_116 ct_mplace rfl (by decide) (xt_cl49 _ _) rfl (by decide) rfl (Nat.le_of_ble_eq_true rfl) dX6_tile_200 ?_
                                    refine xt_ialdN C (by decide) (xt_cl59 _) (by omega) (by decide) (hL.2 y x (by omega) (by omega)).1 dX6_tile_203 ?_
                                    refine xt_if_eq (tgt := 210) C dX6_tile_204 (by decide) (fun c204 => ?_) (fun c204 => ?_)
                                    · refine xt_iload_n C dX6_tile_210 rfl ?_
                                      refine xt_bipush (v := nI 8) C dX6_tile_211 (by decide) ?_
                                      refine xt_icmp_neN (tgt := 237) C dX6_tile_213 (by decide) (by omega) (by omega) (fun c213 => ?_) (fun c213 => ?_)
                                      · refine xt_iincN (z := 1) (lo' := [_, _, _, _, _, _]) C dX6_tile_237 rfl rfl rfl ?_
                                        refine xt_goto (tgt := 112) C dX6_tile_240 (by decide) ?_
                                        have h9 := ih2 (x + 1) (by omega)  (by omega)
                                        rw [show xt_it (fun x s => xt_ci (¬ xt_tC c r sd lv t v (8 * y + x) = 0) s) (x + 1) (xt_it (fun y s => xt_it (fun x s => xt_ci (¬ xt_tC c r sd lv t v (8 * y + x) = 0) s) (xt_gw c sd t) s) y 0) = xt_ci (¬ xt_tC c r sd lv t v (8 * y + x) = 0) (xt_it (fun x s => xt_ci (¬ xt_tC c r sd lv t v (8 * y + x) = 0) s) x (xt_it (fun y s => xt_it (fun x s => xt_ci (¬ xt_tC c r sd lv t v (8 * y + x) = 0) s) (xt_gw c sd t) s) y 0)) from rfl] at h9
                                        first
                                        | rw [xt_ci1 c204] at h9
                                        | rw [xt_ci0 (fun z => z c204)] at h9
                                        exact xt_fg (by repeat' constructor) h9
                                      · exact absurd c213 (by decide)
                                    · refine xt_iinc (lo' := [_, _, _, _, _, _]) C dX6_tile_207 rfl rfl rfl rfl ?_
                                      refine xt_iload_n C dX6_tile_210 rfl ?_
                                      refine xt_bipush (v := nI 8) C dX6_tile_211 (by decide) ?_
                                      refine xt_icmp_neN (tgt := 237) C dX6_tile_213 (by decide) (by omega) (by omega) (fun c213 => ?_) (fun c213 => ?_)
                                      · refine xt_iincN (z := 1) (lo' := [_, _, _, _, _, _]) C dX6_tile_237 rfl rfl rfl ?_
                                        refine xt_goto (tgt := 112) C dX6_tile_240 (by decide) ?_
                                        have h9 := ih2 (x + 1) (by omega)  (by omega)
                                        rw [show xt_it (fun x s => xt_ci (¬ xt_tC c r sd lv t v (8 * y + x) = 0) s) (x + 1) (xt_it (fun y s => xt_it (fun x s => xt_ci (¬ xt_tC c r sd lv t v (8 * y + x) = 0) s) (xt_gw c sd t) s) y 0) = xt_ci (¬ xt_tC c r sd lv t v (8 * y + x) = 0) (xt_it (fun x s => xt_ci (¬ xt_tC c r sd lv t v (8 * y + x) = 0) s) x (xt_it (fun y s => xt_it (fun x s => xt_ci (¬ xt_tC c r sd lv t v (8 * y + x) = 0) s) (xt_gw c sd t) s) y 0)) from rfl] at h9
                                        first
                                        | rw [xt_ci1 c204] at h9
                                        | rw [xt_ci0 (fun z => z c204)] at h9
                                        exact xt_fg (by repeat' constructor) h9
                                      · exact absurd c213 (by decide)
                                · exact absurd c163 (by decide)
                              · exact absurd c125 (by decide)
                        exact xt_fg (by repeat' constructor) (in2 ((xt_gw c sd t) + 1) 0 (by omega)  (by omega))
                  exact xt_fg (by repeat' constructor) (out1 ((xt_gh c r sd t) + 1) 0 (by omega) (by omega))
                · exact absurd c85 (by decide)
              · exact absurd c73 (by decide)
            · exact absurd c61 (by decide)
          · exact absurd c51 (by decide)
        · exact absurd c41 (by decide)
      · exact absurd ⟨nI_pos' (by decide), nI_le (by decide) (by decide)⟩ c26
    · exact absurd ⟨t, ht, rfl⟩ c10
  | 8, _ =>
    refine xt_aload_n C dX6_tile_0 rfl ?_
    refine xt_iconst (v := nI 0) C dX6_tile_1 rfl ?_
    refine xt_put (f := 0) C xt_u6 rfl (by decide) (xt_cl49 _ _) (by decide) tyX6 tyX6_ok nmX6 lkX6_74 rfl (tyX6_ok 0 (by decide)) rfl rfl (Nat.le_of_ble_eq_true rfl) rfl dX6_tile_2 ?_
    refine xt_aload_n C dX6_tile_5 rfl ?_
    refine xt_iload_n C dX6_tile_6 rfl ?_
    refine xt_cV C mv_X6_isTile lkX6_165 (ct_isTile (by exact hM9)) rfl (by decide) (xt_cl49 _ _) rfl (by decide) rfl (Nat.le_of_ble_eq_true rfl) dX6_tile_7 ?_
    refine xt_if_neB (tgt := 19) C dX6_tile_10 (by decide) (fun c10 => ?_) (fun c10 => ?_)
    · refine xt_iload_n C dX6_tile_19 rfl ?_
      refine xt_iconst (v := nI 0) C dX6_tile_20 rfl ?_
      refine xt_bipush (v := nI 8) C dX6_tile_21 (by decide) ?_
      refine xt_cS C ms_X6_in lkX6_81 ct_in rfl (by decide) rfl (Nat.le_of_ble_eq_true rfl) dX6_tile_23 ?_
      refine xt_if_neB (tgt := 35) C dX6_tile_26 (by decide) (fun c26 => ?_) (fun c26 => ?_)
      · refine xt_aload_n C dX6_tile_35 rfl ?_
        refine xt_iload_n C dX6_tile_36 rfl ?_
        refine xt_cVpn C mv_X6_looks lkX6_169 (ct_looks (by exact hM9) ht (by exact hk9)) rfl (by decide) (xt_cl49 _ _) rfl (by decide) rfl (Nat.le_of_ble_eq_true rfl) dX6_tile_37 (fun S9 hq9 => ?_)
        obtain ⟨hfr, hL0⟩ := hq9
        have hL := xt_ML_c ⟨b1, b2⟩ ⟨b3, b4⟩ b5 ht hvv hkk hL0
        rename xt_St => T1
        have hMt := hL.1
        obtain ⟨m1, m2, m3, m4, g1, g2, g3, g4, g5, g6, g7⟩ := id hMt
        refine xt_iload_n C dX6_tile_40 rfl ?_
        refine xt_if_neN (tgt := 49) C dX6_tile_41 (by decide) (by omega) (fun c41 => ?_) (fun c41 => ?_)
        · refine xt_iload_n C dX6_tile_49 rfl ?_
          refine xt_iconst (v := nI 1) C dX6_tile_50 rfl ?_
          refine xt_icmp_neN (tgt := 59) C dX6_tile_51 (by decide) (by omega) (by omega) (fun c51 => ?_) (fun c51 => ?_)
          · refine xt_iload_n C dX6_tile_59 rfl ?_
            refine xt_iconst (v := nI 2) C dX6_tile_60 rfl ?_
            refine xt_icmp_neN (tgt := 71) C dX6_tile_61 (by decide) (by omega) (by omega) (fun c61 => ?_) (fun c61 => ?_)
            · refine xt_iload_n C dX6_tile_71 rfl ?_
              refine xt_iconst (v := nI 3) C dX6_tile_72 rfl ?_
              refine xt_icmp_neN (tgt := 83) C dX6_tile_73 (by decide) (by omega) (by omega) (fun c73 => ?_) (fun c73 => ?_)
              · refine xt_iload_n C dX6_tile_83 rfl ?_
                refine xt_iconst (v := nI 4) C dX6_tile_84 rfl ?_
                refine xt_icmp_neN (tgt := 93) C dX6_tile_85 (by decide) (by omega) (by omega) (fun c85 => ?_) (fun c85 => ?_)
                · refine xt_iconst (v := nI 0) C dX6_tile_93 rfl ?_
                  refine xt_istore_n (lo' := [_, _, _, _, _, _]) C dX6_tile_94 (Nat.le_of_ble_eq_true rfl) rfl rfl ?_
                  refine xt_iconst (v := nI 0) C dX6_tile_95 rfl ?_
                  refine xt_istore (lo' := [_, _, _, _, _, _]) C dX6_tile_96 (Nat.le_of_ble_eq_true rfl) rfl rfl ?_
                  have out1 : ∀ (d1 y : Nat), y ≤ (xt_gh c r sd t) →  (xt_gh c r sd t) + 1 ≤ y + d1 → xt_X E cx (xt_ZM E cx 0 0 (xt_Ep (some (.int (xt_til c r sd lv t v k 8))) (xt_mr S 0))) 0 0 98 [some (.ref (E.1 49)), some (.int (nI t)), some (.int (nI 8)), some (.int (xt_it (fun y s => xt_it (fun x s => s + (v (((xt_gt c sd t) + y) * c + ((xt_gl c sd t) + x)))) (xt_gw c sd t) s) y 0)), some (.int (nI y)), none] [] T1 := by
                    intro d1
                    induction d1 with
                    | zero => intro y  h0y  h1y; exact absurd h1y (by omega)
                    | succ d1 ih1 =>
                      intro y  h0y  h1y
                      refine xt_iload C dX6_tile_98 rfl ?_
                      refine xt_aload_n C dX6_tile_100 rfl ?_
                      refine xt_get (f := 20) C xt_u6 rfl (by decide) (xt_cl49 _ _) (by decide) lkX6_41 rfl dX6_tile_101 ?_
                      refine xt_iconst (v := nI 0) C dX6_tile_104 rfl ?_
                      refine xt_ialdN C (by decide) (xt_cl58 _) (by decide) (by decide) (show T1.2.1 58 0 = nI (xt_gh c r sd t) from by rw [(m4 0 (by omega)).2, xt_lo_0]) dX6_tile_105 ?_
                      refine xt_icmp_geN (tgt := 249) C dX6_tile_106 (by decide) (by omega) (by omega) (fun c106 => ?_) (fun c106 => ?_)
                      · refine xt_iload_n C dX6_tile_249 rfl ?_
                        exact xt_iret C dX6_tile_250 ⟨by decide, by decide⟩ ⟨by rw [show y = (xt_gh c r sd t) by omega]; rfl, xt_mr_0 hfr⟩
                      · refine xt_iconst (v := nI 0) C dX6_tile_109 rfl ?_
                        refine xt_istore (lo' := [_, _, _, _, _, _]) C dX6_tile_110 (Nat.le_of_ble_eq_true rfl) rfl rfl ?_
                        have in2 : ∀ (d2 x : Nat), x ≤ (xt_gw c sd t) →  (xt_gw c sd t) + 1 ≤ x + d2 → xt_X E cx (xt_ZM E cx 0 0 (xt_Ep (some (.int (xt_til c r sd lv t v k 8))) (xt_mr S 0))) 0 0 112 [some (.ref (E.1 49)), some (.int (nI t)), some (.int (nI 8)), some (.int (xt_it (fun x s => s + (v (((xt_gt c sd t) + y) * c + ((xt_gl c sd t) + x)))) x (xt_it (fun y s => xt_it (fun x s => s + (v (((xt_gt c sd t) + y) * c + ((xt_gl c sd t) + x)))) (xt_gw c sd t) s) y 0))), some (.int (nI y)), some (.int (nI x))] [] T1 := by
                          intro d2
                          induction d2 with
                          | zero => intro x  h0x  h1x; exact absurd h1x (by omega)
                          | succ d2 ih2 =>
                            intro x  h0x  h1x
                            refine xt_iload C dX6_tile_112 rfl ?_
                            refine xt_aload_n C dX6_tile_114 rfl ?_
                            refine xt_get (f := 19) C xt_u6 rfl (by decide) (xt_cl49 _ _) (by decide) lkX6_38 rfl dX6_tile_115 ?_
                            refine xt_iconst (v := nI 0) C dX6_tile_118 rfl ?_
                            refine xt_ialdN C (by decide) (xt_cl57 _) (by decide) (by decide) (show T1.2.1 57 0 = nI (xt_gw c sd t) from by rw [(m4 0 (by omega)).1, xt_lo_0]) dX6_tile_119 ?_
                            refine xt_icmp_geN (tgt := 243) C dX6_tile_120 (by decide) (by omega) (by omega) (fun c120 => ?_) (fun c120 => ?_)
                            · refine xt_iincN (z := 1) (lo' := [_, _, _, _, _, _]) C dX6_tile_243 rfl rfl rfl ?_
                              refine xt_goto (tgt := 98) C dX6_tile_246 (by decide) ?_
                              have hx9 : x = (xt_gw c sd t) := by omega
                              subst hx9
                              exact xt_fg (by repeat' constructor) (ih1 (y + 1) (by omega)  (by omega))
                            · have hix := (xt_ix (c := c) (r := r) (x := (xt_gl c sd t) + x) (y := (xt_gt c sd t) + y) (by omega) (by omega) b2 b4).1
                              refine xt_iload_n C dX6_tile_123 rfl ?_
                              refine xt_iconst (v := nI 5) C dX6_tile_124 rfl ?_
                              refine xt_icmp_neN (tgt := 160) C dX6_tile_125 (by decide) (by omega) (by omega) (fun c125 => ?_) (fun c125 => ?_)
                              · refine xt_iload_n C dX6_tile_160 rfl ?_
                                refine xt_bipush (v := nI 6) C dX6_tile_161 (by decide) ?_
                                refine xt_icmp_neN (tgt := 185) C dX6_tile_163 (by decide) (by omega) (by omega) (fun c163 => ?_) (fun c163 => ?_)
                                · refine xt_iload_n C dX6_tile_185 rfl ?_
                                  refine xt_bipush (v := nI 7) C dX6_tile_186 (by decide) ?_
                                  refine xt_icmp_neN (tgt := 210) C dX6_tile_188 (by decide) (by omega) (by omega) (fun c188 => ?_) (fun c188 => ?_)
                                  · refine xt_iload_n C dX6_tile_210 rfl ?_
                                    refine xt_bipush (v := nI 8) C dX6_tile_211 (by decide) ?_
                                    refine xt_icmp_neN (tgt := 237) C dX6_tile_213 (by decide) (by omega) (by omega) (fun c213 => ?_) (fun c213 => ?_)
                                    · exact absurd rfl c213
                                    · refine xt_iload_n C dX6_tile_216 rfl ?_
                                      refine xt_aload_n C dX6_tile_217 rfl ?_
                                      refine xt_aload_n C dX6_tile_218 rfl ?_
                                      refine xt_get (f := 16) C xt_u6 rfl (by decide) (xt_cl49 _ _) (by decide) lkX6_97 (xt_vI (by exact m1)) dX6_tile_219 ?_
                                      refine xt_iload C dX6_tile_222 rfl ?_
                                      refine xt_iaddN C dX6_tile_224 ?_
                                      refine xt_aload_n C dX6_tile_225 rfl ?_
                                      refine xt_get (f := 17) C xt_u6 rfl (by decide) (xt_cl49 _ _) (by decide) lkX6_100 (xt_vI (by exact m2)) dX6_tile_226 ?_
                                      refine xt_iload C dX6_tile_229 rfl ?_
                                      refine xt_iaddN C dX6_tile_231 ?_
                                      refine xt_cV C mv_X6_value lkX6_119 (ct_mvalue (by exact xt_mfr_Mp hfr hM9) hix) rfl (by decide) (xt_cl49 _ _) rfl (by decide) rfl (Nat.le_of_ble_eq_true rfl) dX6_tile_232 ?_
                                      rw [show xt_mV T1 (((xt_gt c sd t) + y) * c + ((xt_gl c sd t) + x)) = v (((xt_gt c sd t) + y) * c + ((xt_gl c sd t) + x)) from (congrFun (xt_mfr_v hfr).1 _).trans (hvv _ hix)]
                                      refine xt_iadd C dX6_tile_235 ?_
                                      refine xt_istore_n (lo' := [_, _, _, _, _, _]) C dX6_tile_236 (Nat.le_of_ble_eq_true rfl) rfl rfl ?_
                                      refine xt_iincN (z := 1) (lo' := [_, _, _, _, _, _]) C dX6_tile_237 rfl rfl rfl ?_
                                      refine xt_goto (tgt := 112) C dX6_tile_240 (by decide) ?_
                                      have h9 := ih2 (x + 1) (by omega)  (by omega)
                                      exact xt_fg (by repeat' constructor) h9
                                  · exact absurd c188 (by decide)
                                · exact absurd c163 (by decide)
                              · exact absurd c125 (by decide)
                        exact xt_fg (by repeat' constructor) (in2 ((xt_gw c sd t) + 1) 0 (by omega)  (by omega))
                  exact xt_fg (by repeat' constructor) (out1 ((xt_gh c r sd t) + 1) 0 (by omega) (by omega))
                · exact absurd c85 (by decide)
              · exact absurd c73 (by decide)
            · exact absurd c61 (by decide)
          · exact absurd c51 (by decide)
        · exact absurd c41 (by decide)
      · exact absurd ⟨nI_pos' (by decide), nI_le (by decide) (by decide)⟩ c26
    · exact absurd ⟨t, ht, rfl⟩ c10
set_option maxRecDepth 20000 in
set_option maxHeartbeats 2000000 in
theorem ct_mtile_b1 {c r sd lv bo : Nat} (hM : xt_Mp S c r sd lv bo) {a q : Int32} (hbad : ¬ ∃ j, j < xt_nt c r sd ∧ a = nI j) : xt_Ct E l yX6_tile cX6_tile 6 (some Jvm.ClassFile.FieldType.int) 4 84 0 0 [.ref (E.1 49), .int a, .int q] S (xt_Ep (some (.int (nI 0))) (xt_mr S 1)) := by
  refine xt_body (by decide +kernel) (xt_all rfl) (Nat.le_of_ble_eq_true rfl) (fun cx C hl9 => ?_)
  show xt_X E cx _ 0 0 0 [some (.ref (E.1 49)), some (.int a), some (.int q), none, none, none] [] S
  have hM9 := hM
  obtain ⟨hc, hr, hs, hv, hb, b1, b2, b3, b4, b5, b6, b7⟩ := hM
  refine xt_aload_n C dX6_tile_0 rfl ?_
  refine xt_iconst (v := nI 0) C dX6_tile_1 rfl ?_
  refine xt_put (f := 0) C xt_u6 rfl (by decide) (xt_cl49 _ _) (by decide) tyX6 tyX6_ok nmX6 lkX6_74 rfl (tyX6_ok 0 (by decide)) rfl rfl (Nat.le_of_ble_eq_true rfl) rfl dX6_tile_2 ?_
  refine xt_aload_n C dX6_tile_5 rfl ?_
  refine xt_iload_n C dX6_tile_6 rfl ?_
  refine xt_cV C mv_X6_isTile lkX6_165 (ct_isTile (by exact hM9)) rfl (by decide) (xt_cl49 _ _) rfl (by decide) rfl (Nat.le_of_ble_eq_true rfl) dX6_tile_7 ?_
  refine xt_if_neB (tgt := 19) C dX6_tile_10 (by decide) (fun c10 => ?_) (fun c10 => ?_)
  · exact absurd c10 hbad
  · refine xt_aload_n C dX6_tile_13 rfl ?_
    refine xt_iconst (v := nI 1) C dX6_tile_14 rfl ?_
    refine xt_cV C mv_X6_raises lkX6_142 ct_mraises rfl (by decide) (xt_cl49 _ _) rfl (by decide) rfl (Nat.le_of_ble_eq_true rfl) dX6_tile_15 ?_
    exact xt_iret C dX6_tile_18 ⟨by decide, by decide⟩ ⟨rfl, xt_mr_x xt_mfr_rf⟩
set_option maxRecDepth 20000 in
set_option maxHeartbeats 2000000 in
theorem ct_mtile_b2 {c r sd lv bo : Nat} (hM : xt_Mp S c r sd lv bo) {a q : Int32} (hbad : ∃ j, j < xt_nt c r sd ∧ a = nI j) (hq : ¬ (nI 0 ≤ q ∧ q ≤ nI 8)) : xt_Ct E l yX6_tile cX6_tile 6 (some Jvm.ClassFile.FieldType.int) 4 84 0 0 [.ref (E.1 49), .int a, .int q] S (xt_Ep (some (.int (nI 0))) (xt_mr S 2)) := by
  refine xt_body (by decide +kernel) (xt_all rfl) (Nat.le_of_ble_eq_true rfl) (fun cx C hl9 => ?_)
  show xt_X E cx _ 0 0 0 [some (.ref (E.1 49)), some (.int a), some (.int q), none, none, none] [] S
  have hM9 := hM
  obtain ⟨hc, hr, hs, hv, hb, b1, b2, b3, b4, b5, b6, b7⟩ := hM
  refine xt_aload_n C dX6_tile_0 rfl ?_
  refine xt_iconst (v := nI 0) C dX6_tile_1 rfl ?_
  refine xt_put (f := 0) C xt_u6 rfl (by decide) (xt_cl49 _ _) (by decide) tyX6 tyX6_ok nmX6 lkX6_74 rfl (tyX6_ok 0 (by decide)) rfl rfl (Nat.le_of_ble_eq_true rfl) rfl dX6_tile_2 ?_
  refine xt_aload_n C dX6_tile_5 rfl ?_
  refine xt_iload_n C dX6_tile_6 rfl ?_
  refine xt_cV C mv_X6_isTile lkX6_165 (ct_isTile (by exact hM9)) rfl (by decide) (xt_cl49 _ _) rfl (by decide) rfl (Nat.le_of_ble_eq_true rfl) dX6_tile_7 ?_
  refine xt_if_neB (tgt := 19) C dX6_tile_10 (by decide) (fun c10 => ?_) (fun c10 => ?_)
  · refine xt_iload_n C dX6_tile_19 rfl ?_
    refine xt_iconst (v := nI 0) C dX6_tile_20 rfl ?_
    refine xt_bipush (v := nI 8) C dX6_tile_21 (by decide) ?_
    refine xt_cS C ms_X6_in lkX6_81 ct_in rfl (by decide) rfl (Nat.le_of_ble_eq_true rfl) dX6_tile_23 ?_
    refine xt_if_neB (tgt := 35) C dX6_tile_26 (by decide) (fun c26 => ?_) (fun c26 => ?_)
    · exact absurd c26 hq
    · refine xt_aload_n C dX6_tile_29 rfl ?_
      refine xt_iconst (v := nI 2) C dX6_tile_30 rfl ?_
      refine xt_cV C mv_X6_raises lkX6_142 ct_mraises rfl (by decide) (xt_cl49 _ _) rfl (by decide) rfl (Nat.le_of_ble_eq_true rfl) dX6_tile_31 ?_
      exact xt_iret C dX6_tile_34 ⟨by decide, by decide⟩ ⟨rfl, xt_mr_x xt_mfr_rf⟩
  · exact absurd hbad c10
end XM16
