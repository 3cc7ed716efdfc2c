/-! THE MODEL: isUnder, isQuiet -/
section XM9
variable {E : xt_Ev} {l : Launch} {S : xt_St}
set_option maxRecDepth 20000 in
set_option maxHeartbeats 2000000 in
theorem ct_isUnder {lf tp w h dp : Nat} (hMt : xt_Mt S lf tp w h dp) {x y : Nat} (hx : x < w) (hy : y < h) {rt : Nat} (hr64 : rt < 64) : xt_Ct E l yX6_isUnder cX6_isUnder 5 (some Jvm.ClassFile.FieldType.boolean) 2 53 0 0 [.ref (E.1 49), .int (nI x), .int (nI y), .int (nI rt)] S (xt_Eq (some (.int (xt_b (∃ j, j < 3 ∧ xt_anc (xt_pf dp w h) (j + 1) (8 * y + x) = some rt)))) S) := by
  refine xt_body (by decide +kernel) (xt_all rfl) (Nat.le_of_ble_eq_true rfl) (fun cx C hl9 => ?_)
  show xt_X E cx _ 0 0 0 [some (.ref (E.1 49)), some (.int (nI x)), some (.int (nI y)), some (.int (nI rt)), none] [] S
  have hMt9 := hMt
  obtain ⟨m1, m2, m3, m4, g1, g2, g3, g4, g5, g6, g7⟩ := hMt
  have hp9 : xt_in w h (8 * y + x) := ⟨by omega, by omega⟩
  have hT := xt_pf_T (dp := dp) g5 g2 g4
  have loop : ∀ (d j : Nat), j ≤ 3 → (∀ i, i < j → ¬ xt_anc (xt_pf dp w h) (i + 1) (8 * y + x) = some rt) → 3 + 1 ≤ j + d → xt_X E cx (xt_ZM E cx 0 0 (xt_Eq (some (.int (xt_b (∃ j, j < 3 ∧ xt_anc (xt_pf dp w h) (j + 1) (8 * y + x) = some rt)))) S)) 0 0 8 [some (.ref (E.1 49)), some (.int (nI x)), some (.int (nI y)), some (.int (nI rt)), some (.int (xt_oI (xt_anc (xt_pf dp w h) (j + 1) (8 * y + x))))] [] S := by
    intro d
    induction d with
    | zero => intro j  h0j hb h1j; exact absurd h1j (by omega)
    | succ d ih =>
      intro j  h0j hb h1j
      refine xt_iload C dX6_isUnder_8 rfl ?_
      refine xt_if_lt (tgt := 38) C dX6_isUnder_10 (by decide) (fun c10 => ?_) (fun c10 => ?_)
      · have hn9 := xt_oI_neg c10 (fun q hq => xt_in64 g2 g4 (xt_anc_in hT hp9 _ _ hq))
        have hno : ¬ ∃ j, j < 3 ∧ xt_anc (xt_pf dp w h) (j + 1) (8 * y + x) = some rt := by
          rintro ⟨i, hi, ei⟩
          by_cases z : i < j
          · exact hb i z ei
          · rw [xt_anc_no hn9 (i + 1) (by omega)] at ei
            cases ei
        refine xt_iload C dX6_isUnder_38 rfl ?_
        refine xt_iload_n C dX6_isUnder_40 rfl ?_
        refine xt_icmp_ne (tgt := 48) C dX6_isUnder_41 (by decide) (fun c41 => ?_) (fun c41 => ?_)
        · refine xt_iconst (v := nI 0) C dX6_isUnder_48 rfl ?_
          exact xt_zret C dX6_isUnder_49 (by decide) ⟨by decide, by decide⟩ (xt_q0 hno)
        · exact absurd (show nI rt < 0 by rw [← c41]; exact c10) (nI_pos (by omega))
      · obtain ⟨q, hq⟩ := xt_oI_pos c10
        have hqin := xt_anc_in hT hp9 _ _ hq
        have hq64 := xt_in64 g2 g4 hqin
        have hj3 : j < 3 := by
          apply Nat.lt_of_not_le
          intro z
          rw [show j + 1 = 4 by omega, xt_pf_end g5 g2 g4 hp9] at hq
          cases hq
        rw [hq, show xt_oI (some q) = nI q from rfl]
        refine xt_iload C dX6_isUnder_13 rfl ?_
        refine xt_iload_n C dX6_isUnder_15 rfl ?_
        refine xt_icmp_eqN (tgt := 38) C dX6_isUnder_16 (by decide) (by omega) (by omega) (fun c16 => ?_) (fun c16 => ?_)
        · refine xt_iload C dX6_isUnder_38 rfl ?_
          refine xt_iload_n C dX6_isUnder_40 rfl ?_
          refine xt_icmp_neN (tgt := 48) C dX6_isUnder_41 (by decide) (by omega) (by omega) (fun c41 => ?_) (fun c41 => ?_)
          · exact absurd c16 c41
          · refine xt_iconst (v := nI 1) C dX6_isUnder_44 rfl ?_
            refine xt_goto (tgt := 49) C dX6_isUnder_45 (by decide) ?_
            exact xt_zret C dX6_isUnder_49 (by decide) ⟨by decide, by decide⟩ (xt_q1 ⟨j, hj3, by rw [hq, c16]⟩)
        · refine xt_aload_n C dX6_isUnder_19 rfl ?_
          refine xt_iload C dX6_isUnder_20 rfl ?_
          refine xt_bipush (v := nI 8) C dX6_isUnder_22 (by decide) ?_
          refine xt_iremN C dX6_isUnder_24 (by omega) (by omega) (by omega) ?_
          refine xt_iload C dX6_isUnder_25 rfl ?_
          refine xt_bipush (v := nI 8) C dX6_isUnder_27 (by decide) ?_
          refine xt_idivN C dX6_isUnder_29 (by omega) (by omega) (by omega) ?_
          refine xt_cV C mv_X6_parent lkX6_193 (ct_parent (by exact hMt9) hqin.1 hqin.2) rfl (by decide) (xt_cl49 _ _) rfl (by decide) rfl (Nat.le_of_ble_eq_true rfl) dX6_isUnder_30 ?_
          refine xt_istore (lo' := [_, _, _, _, _]) C dX6_isUnder_33 (Nat.le_of_ble_eq_true rfl) rfl rfl ?_
          refine xt_goto (tgt := 8) C dX6_isUnder_35 (by decide) ?_
          rw [show xt_pp dp w h (q % 8) (q / 8) = xt_oI (xt_anc (xt_pf dp w h) (j + 1 + 1) (8 * y + x)) from by rw [xt_pf_I g5 g2 g4 hqin, xt_anc, hq]; rfl]
          exact xt_fg (by repeat' constructor) (ih (j + 1) (by omega) (fun i hi => by
            by_cases z : i = j
            · rw [z, hq]
              intro e9
              cases e9
              exact c16 rfl
            · exact hb i (by omega)) (by omega))
  refine xt_aload_n C dX6_isUnder_0 rfl ?_
  refine xt_iload_n C dX6_isUnder_1 rfl ?_
  refine xt_iload_n C dX6_isUnder_2 rfl ?_
  refine xt_cV C mv_X6_parent lkX6_193 (ct_parent (by exact hMt9) hx hy) rfl (by decide) (xt_cl49 _ _) rfl (by decide) rfl (Nat.le_of_ble_eq_true rfl) dX6_isUnder_3 ?_
  refine xt_istore (lo' := [_, _, _, _, _]) C dX6_isUnder_6 (Nat.le_of_ble_eq_true rfl) rfl rfl ?_
  rw [show xt_pp dp w h x y = xt_oI (xt_anc (xt_pf dp w h) (0 + 1) (8 * y + x)) from by rw [show xt_pp dp w h x y = xt_pp dp w h ((8 * y + x) % 8) ((8 * y + x) / 8) from by rw [show (8 * y + x) % 8 = x by omega, show (8 * y + x) / 8 = y by omega], xt_pf_I g5 g2 g4 hp9]; rfl]
  exact xt_fg (by repeat' constructor) (loop (3 + 1) 0 (by omega) (fun i hi => absurd hi (Nat.not_lt_zero _)) (by omega))
set_option maxRecDepth 20000 in
set_option maxHeartbeats 2000000 in
theorem ct_isQuiet {c r sd lv bo : Nat} (hM : xt_Mp S c r sd lv bo) {t : Nat} (ht : t < xt_nt c r sd) {v k : Nat → Int32} (hL : xt_ML S c r sd lv t v k) (hA : ∀ y x, y < (xt_gh c r sd t) → x < (xt_gw c sd t) → ∃ a, a < 512 ∧ xt_abs (xt_tC c r sd lv t v (8 * y + x)) = nI a) {rt n : Nat} (hr64 : rt < 64) (hn9 : n ≤ 9) : xt_Ct E l yX6_isQuiet cX6_isQuiet 5 (some Jvm.ClassFile.FieldType.boolean) 3 77 0 0 [.ref (E.1 49), .int (nI rt), .int (nI n)] S (xt_Eq (some (.int (xt_b (¬ xt_loud (xt_pf (xt_tD c r sd lv t) (xt_gw c sd t) (xt_gh c r sd t)) (xt_tC c r sd lv t v) (nI (1 * 2 ^ n)) (fun y9 x9 => y9 < (xt_gh c r sd t) ∧ x9 < (xt_gw c sd t)) rt)))) S) := by
  refine xt_body (by decide +kernel) (xt_all rfl) (Nat.le_of_ble_eq_true rfl) (fun cx C hl9 => ?_)
  show xt_X E cx _ 0 0 0 [some (.ref (E.1 49)), some (.int (nI rt)), some (.int (nI n)), none, none] [] S
  have hM9 := hM
  obtain ⟨hc, hr, hs, hv, hb, b1, b2, b3, b4, b5, b6, b7⟩ := hM
  have hn := xt_nt_b ⟨b1, b2⟩ ⟨b3, b4⟩ b5
  have hT := xt_tile_b ⟨b1, b2⟩ ⟨b3, b4⟩ b5 ht
  have hdl : (xt_tD c r sd lv t) ≤ 3 := xt_dep_le.2
  have hMt := hL.1
  obtain ⟨m1, m2, m3, m4, g1, g2, g3, g4, g5, g6, g7⟩ := id hMt
  have hpw : 2 ^ n ≤ 2 ^ 9 := Nat.pow_le_pow_right (by decide) hn9
  have out1 : ∀ (d1 y : Nat), y ≤ (xt_gh c r sd t) → (∀ y9 x9, y9 < (xt_gh c r sd t) → x9 < (xt_gw c sd t) → (y9 < y ∨ (y9 = y ∧ x9 < 0)) → ¬ (¬ xt_abs ((xt_tC c r sd lv t v) (8 * y9 + x9)) < nI (1 * 2 ^ n) ∧ ∃ j, j < 4 ∧ xt_anc (xt_pf (xt_tD c r sd lv t) (xt_gw c sd t) (xt_gh c r sd t)) j (8 * y9 + x9) = some rt)) → (xt_gh c r sd t) + 1 ≤ y + d1 → xt_X E cx (xt_ZM E cx 0 0 (xt_Eq (some (.int (xt_b (¬ xt_loud (xt_pf (xt_tD c r sd lv t) (xt_gw c sd t) (xt_gh c r sd t)) (xt_tC c r sd lv t v) (nI (1 * 2 ^ n)) (fun y9 x9 => y9 < (xt_gh c r sd t) ∧ x9 < (xt_gw c sd t)) rt)))) S)) 0 0 2 [some (.ref (E.1 49)), some (.int (nI rt)), some (.int (nI n)), some (.int (nI y)), none] [] S := by
    intro d1
    induction d1 with
    | zero => intro y  h0y hno h1y; exact absurd h1y (by omega)
    | succ d1 ih1 =>
      intro y  h0y hno h1y
      refine xt_iload_n C dX6_isQuiet_2 rfl ?_
      refine xt_aload_n C dX6_isQuiet_3 rfl ?_
      refine xt_get (f := 20) C xt_u6 rfl (by decide) (xt_cl49 _ _) (by decide) lkX6_41 rfl dX6_isQuiet_4 ?_
      refine xt_iconst (v := nI 0) C dX6_isQuiet_7 rfl ?_
      refine xt_ialdN C (by decide) (xt_cl58 _) (by decide) (by decide) (show S.2.1 58 0 = nI (xt_gh c r sd t) from by rw [(m4 0 (by omega)).2, xt_lo_0]) dX6_isQuiet_8 ?_
      refine xt_icmp_geN (tgt := 85) C dX6_isQuiet_9 (by decide) (by omega) (by omega) (fun c9 => ?_) (fun c9 => ?_)
      · refine xt_iconst (v := nI 1) C dX6_isQuiet_85 rfl ?_
        exact xt_zret C dX6_isQuiet_86 (by decide) ⟨by decide, by decide⟩ (xt_q1 (fun z => by obtain ⟨y9, x9, ⟨z1, z2⟩, z3, z4⟩ := z; exact hno y9 x9 z1 z2 (by omega) ⟨z3, z4⟩))
      · refine xt_iconst (v := nI 0) C dX6_isQuiet_12 rfl ?_
        refine xt_istore (lo' := [_, _, _, _, _]) C dX6_isQuiet_13 (Nat.le_of_ble_eq_true rfl) rfl rfl ?_
        have in2 : ∀ (d2 x : Nat), x ≤ (xt_gw c sd t) → (∀ y9 x9, y9 < (xt_gh c r sd t) → x9 < (xt_gw c sd t) → (y9 < y ∨ (y9 = y ∧ x9 < x)) → ¬ (¬ xt_abs ((xt_tC c r sd lv t v) (8 * y9 + x9)) < nI (1 * 2 ^ n) ∧ ∃ j, j < 4 ∧ xt_anc (xt_pf (xt_tD c r sd lv t) (xt_gw c sd t) (xt_gh c r sd t)) j (8 * y9 + x9) = some rt)) → (xt_gw c sd t) + 1 ≤ x + d2 → xt_X E cx (xt_ZM E cx 0 0 (xt_Eq (some (.int (xt_b (¬ xt_loud (xt_pf (xt_tD c r sd lv t) (xt_gw c sd t) (xt_gh c r sd t)) (xt_tC c r sd lv t v) (nI (1 * 2 ^ n)) (fun y9 x9 => y9 < (xt_gh c r sd t) ∧ x9 < (xt_gw c sd t)) rt)))) S)) 0 0 15 [some (.ref (E.1 49)), some (.int (nI rt)), some (.int (nI n)), some (.int (nI y)), some (.int (nI x))] [] S := by
          intro d2
          induction d2 with
          | zero => intro x  h0x hno h1x; exact absurd h1x (by omega)
          | succ d2 ih2 =>
            intro x  h0x hno h1x
            refine xt_iload C dX6_isQuiet_15 rfl ?_
            refine xt_aload_n C dX6_isQuiet_17 rfl ?_
            refine xt_get (f := 19) C xt_u6 rfl (by decide) (xt_cl49 _ _) (by decide) lkX6_38 rfl dX6_isQuiet_18 ?_
            refine xt_iconst (v := nI 0) C dX6_isQuiet_21 rfl ?_
            refine xt_ialdN C (by decide) (xt_cl57 _) (by decide) (by decide) (show S.2.1 57 0 = nI (xt_gw c sd t) from by rw [(m4 0 (by omega)).1, xt_lo_0]) dX6_isQuiet_22 ?_
            refine xt_icmp_geN (tgt := 79) C dX6_isQuiet_23 (by decide) (by omega) (by omega) (fun c23 => ?_) (fun c23 => ?_)
            · refine xt_iincN (z := 1) (lo' := [_, _, _, _, _]) C dX6_isQuiet_79 rfl rfl rfl ?_
              refine xt_goto (tgt := 2) C dX6_isQuiet_82 (by decide) ?_
              exact xt_fg (by repeat' constructor) (ih1 (y + 1) (by omega) (fun y9 x9 z1 z2 z3 => hno y9 x9 z1 z2 (by omega)) (by omega))
            · obtain ⟨a, ha, ea⟩ := hA y x (by omega) (by omega)
              have hdv : a / 2 ^ n ≤ a := Nat.div_le_self _ _
              refine xt_aload_n C dX6_isQuiet_26 rfl ?_
              refine xt_get (f := 21) C xt_u6 rfl (by decide) (xt_cl49 _ _) (by decide) lkX6_44 rfl dX6_isQuiet_27 ?_
              refine xt_aload_n C dX6_isQuiet_30 rfl ?_
              refine xt_iload C dX6_isQuiet_31 rfl ?_
              refine xt_iload_n C dX6_isQuiet_33 rfl ?_
              refine xt_cV C mv_X6_place lkX6_116 ct_mplace rfl (by decide) (xt_cl49 _ _) rfl (by decide) rfl (Nat.le_of_ble_eq_true rfl) dX6_isQuiet_34 ?_
              refine xt_ialdN C (by decide) (xt_cl59 _) (by omega) (by decide) (hL.2 y x (by omega) (by omega)).1 dX6_isQuiet_37 ?_
              refine xt_mabs C lkX6_132 mw_abs rfl ⟨by decide, Nat.le_of_ble_eq_true rfl, by decide, by decide⟩ dX6_isQuiet_38 ?_
              rw [xt_ab, ea]
              refine xt_iload_n C dX6_isQuiet_41 rfl ?_
              refine xt_ishrN C dX6_isQuiet_42 (by omega) (by omega) ?_
              refine xt_if_neN (tgt := 49) C dX6_isQuiet_43 (by decide) (by omega) (fun c43 => ?_) (fun c43 => ?_)
              · have ha9 : ¬ xt_abs ((xt_tC c r sd lv t v) (8 * y + x)) < nI (1 * 2 ^ n) := by
                  rw [ea]
                  intro z
                  have h9 := (nI_ltI (by omega) (by omega)).mp z
                  rw [Nat.div_eq_of_lt (by omega)] at c43
                  omega
                refine xt_aload_n C dX6_isQuiet_49 rfl ?_
                refine xt_iload C dX6_isQuiet_50 rfl ?_
                refine xt_iload_n C dX6_isQuiet_52 rfl ?_
                refine xt_cV C mv_X6_place lkX6_116 ct_mplace rfl (by decide) (xt_cl49 _ _) rfl (by decide) rfl (Nat.le_of_ble_eq_true rfl) dX6_isQuiet_53 ?_
                refine xt_iload_n C dX6_isQuiet_56 rfl ?_
                refine xt_icmp_eqN (tgt := 71) C dX6_isQuiet_57 (by decide) (by omega) (by omega) (fun c57 => ?_) (fun c57 => ?_)
                · have hl9 : ∃ j, j < 4 ∧ xt_anc (xt_pf (xt_tD c r sd lv t) (xt_gw c sd t) (xt_gh c r sd t)) j (8 * y + x) = some rt := ⟨0, by decide, by rw [c57]; rfl⟩
                  refine xt_iconst (v := nI 0) C dX6_isQuiet_71 rfl ?_
                  exact xt_zret C dX6_isQuiet_72 (by decide) ⟨by decide, by decide⟩ (xt_q0 (fun z => z ⟨y, x, ⟨by omega, by omega⟩, ha9, hl9⟩))
                · refine xt_aload_n C dX6_isQuiet_60 rfl ?_
                  refine xt_iload C dX6_isQuiet_61 rfl ?_
                  refine xt_iload_n C dX6_isQuiet_63 rfl ?_
                  refine xt_iload_n C dX6_isQuiet_64 rfl ?_
                  refine xt_cV C mv_X6_isUnder lkX6_196 (ct_isUnder (by exact hMt) (by omega) (by omega) hr64) rfl (by decide) (xt_cl49 _ _) rfl (by decide) rfl (Nat.le_of_ble_eq_true rfl) dX6_isQuiet_65 ?_
                  refine xt_if_eqB (tgt := 73) C dX6_isQuiet_68 (by decide) (fun c68 => ?_) (fun c68 => ?_)
                  · have hq9 : ¬ (¬ xt_abs ((xt_tC c r sd lv t v) (8 * y + x)) < nI (1 * 2 ^ n) ∧ ∃ j, j < 4 ∧ xt_anc (xt_pf (xt_tD c r sd lv t) (xt_gw c sd t) (xt_gh c r sd t)) j (8 * y + x) = some rt) := by
                      rintro ⟨-, j, hj, ej⟩
                      cases j with
                      | zero => cases ej; exact c57 rfl
                      | succ j => exact c68 ⟨j, by omega, ej⟩
                    refine xt_iincN (z := 1) (lo' := [_, _, _, _, _]) C dX6_isQuiet_73 rfl rfl rfl ?_
                    refine xt_goto (tgt := 15) C dX6_isQuiet_76 (by decide) ?_
                    exact xt_fg (by repeat' constructor) (ih2 (x + 1) (by omega) (fun y9 x9 z1 z2 z3 => by
                      by_cases z : y9 = y ∧ x9 = x
                      · rw [z.1, z.2]; exact hq9
                      · exact hno y9 x9 z1 z2 (by omega)) (by omega))
                  · have hl9 : ∃ j, j < 4 ∧ xt_anc (xt_pf (xt_tD c r sd lv t) (xt_gw c sd t) (xt_gh c r sd t)) j (8 * y + x) = some rt := by
                      obtain ⟨j, hj, ej⟩ := c68
                      exact ⟨j + 1, by omega, ej⟩
                    refine xt_iconst (v := nI 0) C dX6_isQuiet_71 rfl ?_
                    exact xt_zret C dX6_isQuiet_72 (by decide) ⟨by decide, by decide⟩ (xt_q0 (fun z => z ⟨y, x, ⟨by omega, by omega⟩, ha9, hl9⟩))
              · have hq9 : ¬ (¬ xt_abs ((xt_tC c r sd lv t v) (8 * y + x)) < nI (1 * 2 ^ n) ∧ ∃ j, j < 4 ∧ xt_anc (xt_pf (xt_tD c r sd lv t) (xt_gw c sd t) (xt_gh c r sd t)) j (8 * y + x) = some rt) := fun z => z.1 (by rw [ea]; exact (nI_ltI (by omega) (by omega)).mpr (by have h9 := Nat.div_add_mod a (2 ^ n); have h8 := Nat.mod_lt a (Nat.two_pow_pos n); rw [c43] at h9; omega))
                refine xt_goto (tgt := 73) C dX6_isQuiet_46 (by decide) ?_
                refine xt_iincN (z := 1) (lo' := [_, _, _, _, _]) C dX6_isQuiet_73 rfl rfl rfl ?_
                refine xt_goto (tgt := 15) C dX6_isQuiet_76 (by decide) ?_
                exact xt_fg (by repeat' constructor) (ih2 (x + 1) (by omega) (fun y9 x9 z1 z2 z3 => by
                  by_cases z : y9 = y ∧ x9 = x
                  · rw [z.1, z.2]; exact hq9
                  · exact hno y9 x9 z1 z2 (by omega)) (by omega))
        exact xt_fg (by repeat' constructor) (in2 ((xt_gw c sd t) + 1) 0 (by omega) hno (by omega))
  refine xt_iconst (v := nI 0) C dX6_isQuiet_0 rfl ?_
  refine xt_istore_n (lo' := [_, _, _, _, _]) C dX6_isQuiet_1 (Nat.le_of_ble_eq_true rfl) rfl rfl ?_
  exact xt_fg (by repeat' constructor) (out1 ((xt_gh c r sd t) + 1) 0 (by omega) (fun y9 x9 z1 z2 z3 => by omega) (by omega))
end XM9
