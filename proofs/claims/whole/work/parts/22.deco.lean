/-! THE TILE: ROOTS, NEEDS, DECODING, BOUNDS -/
section XC15
variable {E : xt_Ev} {l : Launch} {S : xt_St}
set_option maxRecDepth 20000 in
set_option maxHeartbeats 2000000 in
theorem ct_countRoots {lf tp w h dp bo : Nat} (hT : xt_Tn S lf tp w h dp bo) {f : Nat → Option Nat} (hpar : ∀ p, xt_in w h p → S.2.1 37 p = xt_oI (f p)) (hcl : xt_tree w h f) {pl : Nat} (hpl : pl ≤ 9) : xt_Ct E l yX4_countRoots cX4_countRoots 7 (some Jvm.ClassFile.FieldType.int) 3 69 0 0 [.ref (E.1 33), .int (nI pl)] S (xt_Ep (some (.int (xt_N2 (fun x y => xt_root f (xt_loud f (S.2.1 35) (nI (1 * 2 ^ pl)) (fun y9 x9 => y9 < h ∧ x9 < w)) (8 * y + x)) w h))) (fun S9 => ∃ g9, S9 = xt_sA S 39 g9)) := by
  refine xt_body (by decide +kernel) (xt_all rfl) (Nat.le_of_ble_eq_true rfl) (fun cx C hl9 => ?_)
  show xt_X E cx _ 0 0 0 [some (.ref (E.1 33)), some (.int (nI pl)), none, none, none, none, none] [] S
  have hT9 := hT
  obtain ⟨t0, t1, t2, t3, t4, t5, g1, g2, g3, g4, g5, g6⟩ := hT
  have hpw : 1 * 2 ^ pl ≤ 512 := by have h9 := Nat.pow_le_pow_right (n := 2) (by decide) hpl; omega
  refine xt_aload_n C dX4_countRoots_0 rfl ?_
  refine xt_iconst (v := nI 1) C dX4_countRoots_1 rfl ?_
  refine xt_iload_n C dX4_countRoots_2 rfl ?_
  refine xt_ishlN C dX4_countRoots_3 (by omega) (by omega) ?_
  refine xt_cVpn C mv_X4_markLoud lkX4_152 (ct_markLoud (by exact hT9) hpar hcl) rfl (by decide) (xt_cl33 _ _) rfl (by decide) rfl (Nat.le_of_ble_eq_true rfl) dX4_countRoots_4 (fun S9 hq9 => ?_)
  obtain ⟨g, rfl, hg⟩ := hq9
  have out1 : ∀ (d1 y : Nat), y ≤ h →  h + 1 ≤ y + d1 → xt_X E cx (xt_ZM E cx 0 0 (xt_Ep (some (.int (xt_N2 (fun x y => xt_root f (xt_loud f (S.2.1 35) (nI (1 * 2 ^ pl)) (fun y9 x9 => y9 < h ∧ x9 < w)) (8 * y + x)) w h))) (fun S9 => ∃ g9, S9 = xt_sA S 39 g9))) 0 0 11 [some (.ref (E.1 33)), some (.int (nI pl)), some (.int (xt_it (fun y s => xt_it (fun x s => xt_ci (xt_root f (xt_loud f (S.2.1 35) (nI (1 * 2 ^ pl)) (fun y9 x9 => y9 < h ∧ x9 < w)) (8 * y + x)) s) w s) y 0)), some (.int (nI y)), none, none, none] [] (xt_sA S 39 g) := by
    intro d1
    induction d1 with
    | zero => intro y  h0y  h1y; exact absurd h1y (by omega)
    | succ d1 ih1 =>
      intro y  h0y  h1y
      refine xt_iload_n C dX4_countRoots_11 rfl ?_
      refine xt_aload_n C dX4_countRoots_12 rfl ?_
      refine xt_get (f := 3) C xt_u4 rfl (by decide) (xt_cl33 _ _) (by decide) lkX4_61 (xt_vI t3) dX4_countRoots_13 ?_
      refine xt_icmp_geN (tgt := 94) C dX4_countRoots_16 (by decide) (by omega) (by omega) (fun c16 => ?_) (fun c16 => ?_)
      · refine xt_iload_n C dX4_countRoots_94 rfl ?_
        exact xt_iret C dX4_countRoots_95 ⟨by decide, by decide⟩ ⟨by rw [show y = h by omega]; rfl, g, rfl⟩
      · refine xt_iconst (v := nI 0) C dX4_countRoots_19 rfl ?_
        refine xt_istore (lo' := [_, _, _, _, _, _, _]) C dX4_countRoots_20 (Nat.le_of_ble_eq_true rfl) rfl rfl ?_
        have in2 : ∀ (d2 x : Nat), x ≤ w →  w + 1 ≤ x + d2 → xt_X E cx (xt_ZM E cx 0 0 (xt_Ep (some (.int (xt_N2 (fun x y => xt_root f (xt_loud f (S.2.1 35) (nI (1 * 2 ^ pl)) (fun y9 x9 => y9 < h ∧ x9 < w)) (8 * y + x)) w h))) (fun S9 => ∃ g9, S9 = xt_sA S 39 g9))) 0 0 22 [some (.ref (E.1 33)), some (.int (nI pl)), some (.int (xt_it (fun x s => xt_ci (xt_root f (xt_loud f (S.2.1 35) (nI (1 * 2 ^ pl)) (fun y9 x9 => y9 < h ∧ x9 < w)) (8 * y + x)) s) x (xt_it (fun y s => xt_it (fun x s => xt_ci (xt_root f (xt_loud f (S.2.1 35) (nI (1 * 2 ^ pl)) (fun y9 x9 => y9 < h ∧ x9 < w)) (8 * y + x)) s) w s) y 0))), some (.int (nI y)), some (.int (nI x)), none, none] [] (xt_sA S 39 g) := by
          intro d2
          induction d2 with
          | zero => intro x  h0x  h1x; exact absurd h1x (by omega)
          | succ d2 ih2 =>
            intro x  h0x  h1x
            refine xt_iload C dX4_countRoots_22 rfl ?_
            refine xt_aload_n C dX4_countRoots_24 rfl ?_
            refine xt_get (f := 2) C xt_u4 rfl (by decide) (xt_cl33 _ _) (by decide) lkX4_55 (xt_vI t2) dX4_countRoots_25 ?_
            refine xt_icmp_geN (tgt := 88) C dX4_countRoots_28 (by decide) (by omega) (by omega) (fun c28 => ?_) (fun c28 => ?_)
            · refine xt_iincN (z := 1) (lo' := [_, _, _, _, _, _, _]) C dX4_countRoots_88 rfl rfl rfl ?_
              refine xt_goto (tgt := 11) C dX4_countRoots_91 (by decide) ?_
              have hx9 : x = w := by omega
              subst hx9
              exact xt_fg (by repeat' constructor) (ih1 (y + 1) (by omega)  (by omega))
            · refine xt_iload C dX4_countRoots_31 rfl ?_
              refine xt_iload_n C dX4_countRoots_33 rfl ?_
              refine xt_cSN C ms_X5_placeOf lkX4_88 ct_place rfl (by decide) rfl (Nat.le_of_ble_eq_true rfl) dX4_countRoots_34 ?_
              refine xt_istore (lo' := [_, _, _, _, _, _, _]) C dX4_countRoots_37 (Nat.le_of_ble_eq_true rfl) rfl rfl ?_
              refine xt_aload_n C dX4_countRoots_39 rfl ?_
              refine xt_get (f := 9) C xt_u4 rfl (by decide) (xt_cl33 _ _) (by decide) lkX4_21 rfl dX4_countRoots_40 ?_
              refine xt_iload C dX4_countRoots_43 rfl ?_
              refine xt_cSN C ms_X5_at lkX4_84 (ct_at (by decide) (xt_cl37 _) (by decide) (by omega) (v := xt_oI (f (8 * y + x))) (hpar _ (show xt_in w h (8 * y + x) from ⟨by omega, by omega⟩))) rfl (by decide) rfl (Nat.le_of_ble_eq_true rfl) dX4_countRoots_45 ?_
              refine xt_istore (lo' := [_, _, _, _, _, _, _]) C dX4_countRoots_48 (Nat.le_of_ble_eq_true rfl) rfl rfl ?_
              refine xt_aload_n C dX4_countRoots_50 rfl ?_
              refine xt_get (f := 11) C xt_u4 rfl (by decide) (xt_cl33 _ _) (by decide) lkX4_27 rfl dX4_countRoots_51 ?_
              refine xt_iload C dX4_countRoots_54 rfl ?_
              refine xt_cSN C ms_X5_at lkX4_84 (ct_at (by decide) (xt_cl39 _) (by decide) (by omega) (v := xt_b ((xt_loud f (S.2.1 35) (nI (1 * 2 ^ pl)) (fun y9 x9 => y9 < h ∧ x9 < w)) (8 * y + x))) (hg _ (by omega))) rfl (by decide) rfl (Nat.le_of_ble_eq_true rfl) dX4_countRoots_56 ?_
              refine xt_if_neB (tgt := 82) C dX4_countRoots_59 (by decide) (fun c59 => ?_) (fun c59 => ?_)
              · have hnr : ¬ xt_root f (xt_loud f (S.2.1 35) (nI (1 * 2 ^ pl)) (fun y9 x9 => y9 < h ∧ x9 < w)) (8 * y + x) := fun z => z.1 c59
                refine xt_iincN (z := 1) (lo' := [_, _, _, _, _, _, _]) C dX4_countRoots_82 rfl rfl rfl ?_
                refine xt_goto (tgt := 22) C dX4_countRoots_85 (by decide) ?_
                have h9 := ih2 (x + 1) (by omega)  (by omega)
                rw [show xt_it (fun x s => xt_ci (xt_root f (xt_loud f (S.2.1 35) (nI (1 * 2 ^ pl)) (fun y9 x9 => y9 < h ∧ x9 < w)) (8 * y + x)) s) (x + 1) (xt_it (fun y s => xt_it (fun x s => xt_ci (xt_root f (xt_loud f (S.2.1 35) (nI (1 * 2 ^ pl)) (fun y9 x9 => y9 < h ∧ x9 < w)) (8 * y + x)) s) w s) y 0) = xt_ci (xt_root f (xt_loud f (S.2.1 35) (nI (1 * 2 ^ pl)) (fun y9 x9 => y9 < h ∧ x9 < w)) (8 * y + x)) (xt_it (fun x s => xt_ci (xt_root f (xt_loud f (S.2.1 35) (nI (1 * 2 ^ pl)) (fun y9 x9 => y9 < h ∧ x9 < w)) (8 * y + x)) s) x (xt_it (fun y s => xt_it (fun x s => xt_ci (xt_root f (xt_loud f (S.2.1 35) (nI (1 * 2 ^ pl)) (fun y9 x9 => y9 < h ∧ x9 < w)) (8 * y + x)) s) w s) y 0)) from rfl] at h9
                first
                | rw [xt_ci0 hnr] at h9
                | rw [xt_ci1 hrt] at h9
                exact xt_fg (by repeat' constructor) h9
              · refine xt_iload C dX4_countRoots_62 rfl ?_
                refine xt_if_lt (tgt := 79) C dX4_countRoots_64 (by decide) (fun c64 => ?_) (fun c64 => ?_)
                · have hrt : xt_root f (xt_loud f (S.2.1 35) (nI (1 * 2 ^ pl)) (fun y9 x9 => y9 < h ∧ x9 < w)) (8 * y + x) := ⟨c59, Or.inl (xt_oI_neg c64 (fun q hq => xt_in64 g1 g2 (hcl _ q (show xt_in w h (8 * y + x) from ⟨by omega, by omega⟩) hq)))⟩
                  refine xt_iinc (lo' := [_, _, _, _, _, _, _]) C dX4_countRoots_79 rfl rfl rfl rfl ?_
                  refine xt_iincN (z := 1) (lo' := [_, _, _, _, _, _, _]) C dX4_countRoots_82 rfl rfl rfl ?_
                  refine xt_goto (tgt := 22) C dX4_countRoots_85 (by decide) ?_
                  have h9 := ih2 (x + 1) (by omega)  (by omega)
                  rw [show xt_it (fun x s => xt_ci (xt_root f (xt_loud f (S.2.1 35) (nI (1 * 2 ^ pl)) (fun y9 x9 => y9 < h ∧ x9 < w)) (8 * y + x)) s) (x + 1) (xt_it (fun y s => xt_it (fun x s => xt_ci (xt_root f (xt_loud f (S.2.1 35) (nI (1 * 2 ^ pl)) (fun y9 x9 => y9 < h ∧ x9 < w)) (8 * y + x)) s) w s) y 0) = xt_ci (xt_root f (xt_loud f (S.2.1 35) (nI (1 * 2 ^ pl)) (fun y9 x9 => y9 < h ∧ x9 < w)) (8 * y + x)) (xt_it (fun x s => xt_ci (xt_root f (xt_loud f (S.2.1 35) (nI (1 * 2 ^ pl)) (fun y9 x9 => y9 < h ∧ x9 < w)) (8 * y + x)) s) x (xt_it (fun y s => xt_it (fun x s => xt_ci (xt_root f (xt_loud f (S.2.1 35) (nI (1 * 2 ^ pl)) (fun y9 x9 => y9 < h ∧ x9 < w)) (8 * y + x)) s) w s) y 0)) from rfl] at h9
                  first
                  | rw [xt_ci0 hnr] at h9
                  | rw [xt_ci1 hrt] at h9
                  exact xt_fg (by repeat' constructor) h9
                · obtain ⟨q, hq⟩ := xt_oI_pos c64
                  have hqin := hcl _ q (show xt_in w h (8 * y + x) from ⟨by omega, by omega⟩) hq
                  have hq64 := xt_in64 g1 g2 hqin
                  rw [hq, show xt_oI (some q) = nI q from rfl]
                  refine xt_aload_n C dX4_countRoots_67 rfl ?_
                  refine xt_get (f := 11) C xt_u4 rfl (by decide) (xt_cl33 _ _) (by decide) lkX4_27 rfl dX4_countRoots_68 ?_
                  refine xt_iload C dX4_countRoots_71 rfl ?_
                  refine xt_cSN C ms_X5_at lkX4_84 (ct_at (by decide) (xt_cl39 _) (by decide) hq64 (v := xt_b ((xt_loud f (S.2.1 35) (nI (1 * 2 ^ pl)) (fun y9 x9 => y9 < h ∧ x9 < w)) q)) (hg _ hq64)) rfl (by decide) rfl (Nat.le_of_ble_eq_true rfl) dX4_countRoots_73 ?_
                  refine xt_if_eqB (tgt := 82) C dX4_countRoots_76 (by decide) (fun c76 => ?_) (fun c76 => ?_)
                  · have hnr : ¬ xt_root f (xt_loud f (S.2.1 35) (nI (1 * 2 ^ pl)) (fun y9 x9 => y9 < h ∧ x9 < w)) (8 * y + x) := fun z => by rcases z.2 with z | ⟨q9, z, z9⟩; rw [hq] at z; cases z; rw [hq] at z; cases z; exact c76 z9
                    refine xt_iincN (z := 1) (lo' := [_, _, _, _, _, _, _]) C dX4_countRoots_82 rfl rfl rfl ?_
                    refine xt_goto (tgt := 22) C dX4_countRoots_85 (by decide) ?_
                    have h9 := ih2 (x + 1) (by omega)  (by omega)
                    rw [show xt_it (fun x s => xt_ci (xt_root f (xt_loud f (S.2.1 35) (nI (1 * 2 ^ pl)) (fun y9 x9 => y9 < h ∧ x9 < w)) (8 * y + x)) s) (x + 1) (xt_it (fun y s => xt_it (fun x s => xt_ci (xt_root f (xt_loud f (S.2.1 35) (nI (1 * 2 ^ pl)) (fun y9 x9 => y9 < h ∧ x9 < w)) (8 * y + x)) s) w s) y 0) = xt_ci (xt_root f (xt_loud f (S.2.1 35) (nI (1 * 2 ^ pl)) (fun y9 x9 => y9 < h ∧ x9 < w)) (8 * y + x)) (xt_it (fun x s => xt_ci (xt_root f (xt_loud f (S.2.1 35) (nI (1 * 2 ^ pl)) (fun y9 x9 => y9 < h ∧ x9 < w)) (8 * y + x)) s) x (xt_it (fun y s => xt_it (fun x s => xt_ci (xt_root f (xt_loud f (S.2.1 35) (nI (1 * 2 ^ pl)) (fun y9 x9 => y9 < h ∧ x9 < w)) (8 * y + x)) s) w s) y 0)) from rfl] at h9
                    first
                    | rw [xt_ci0 hnr] at h9
                    | rw [xt_ci1 hrt] at h9
                    exact xt_fg (by repeat' constructor) h9
                  · have hrt : xt_root f (xt_loud f (S.2.1 35) (nI (1 * 2 ^ pl)) (fun y9 x9 => y9 < h ∧ x9 < w)) (8 * y + x) := ⟨c59, Or.inr ⟨q, hq, c76⟩⟩
                    refine xt_iinc (lo' := [_, _, _, _, _, _, _]) C dX4_countRoots_79 rfl rfl rfl rfl ?_
                    refine xt_iincN (z := 1) (lo' := [_, _, _, _, _, _, _]) C dX4_countRoots_82 rfl rfl rfl ?_
                    refine xt_goto (tgt := 22) C dX4_countRoots_85 (by decide) ?_
                    have h9 := ih2 (x + 1) (by omega)  (by omega)
                    rw [show xt_it (fun x s => xt_ci (xt_root f (xt_loud f (S.2.1 35) (nI (1 * 2 ^ pl)) (fun y9 x9 => y9 < h ∧ x9 < w)) (8 * y + x)) s) (x + 1) (xt_it (fun y s => xt_it (fun x s => xt_ci (xt_root f (xt_loud f (S.2.1 35) (nI (1 * 2 ^ pl)) (fun y9 x9 => y9 < h ∧ x9 < w)) (8 * y + x)) s) w s) y 0) = xt_ci (xt_root f (xt_loud f (S.2.1 35) (nI (1 * 2 ^ pl)) (fun y9 x9 => y9 < h ∧ x9 < w)) (8 * y + x)) (xt_it (fun x s => xt_ci (xt_root f (xt_loud f (S.2.1 35) (nI (1 * 2 ^ pl)) (fun y9 x9 => y9 < h ∧ x9 < w)) (8 * y + x)) s) x (xt_it (fun y s => xt_it (fun x s => xt_ci (xt_root f (xt_loud f (S.2.1 35) (nI (1 * 2 ^ pl)) (fun y9 x9 => y9 < h ∧ x9 < w)) (8 * y + x)) s) w s) y 0)) from rfl] at h9
                    first
                    | rw [xt_ci0 hnr] at h9
                    | rw [xt_ci1 hrt] at h9
                    exact xt_fg (by repeat' constructor) h9
        exact xt_fg (by repeat' constructor) (in2 (w + 1) 0 (by omega)  (by omega))
  refine xt_iconst (v := nI 0) C dX4_countRoots_7 rfl ?_
  refine xt_istore_n (lo' := [_, _, _, _, _, _, _]) C dX4_countRoots_8 (Nat.le_of_ble_eq_true rfl) rfl rfl ?_
  refine xt_iconst (v := nI 0) C dX4_countRoots_9 rfl ?_
  refine xt_istore_n (lo' := [_, _, _, _, _, _, _]) C dX4_countRoots_10 (Nat.le_of_ble_eq_true rfl) rfl rfl ?_
  exact xt_fg (by repeat' constructor) (out1 (h + 1) 0 (by omega) (by omega))
set_option maxRecDepth 20000 in
set_option maxHeartbeats 2000000 in
theorem ct_joinedOf {i n : Nat} (hi : i < 8) (hn : n ≤ 8) : xt_Ct E l yX4_joinedOf cX4_joinedOf 2 (some Jvm.ClassFile.FieldType.int) 0 0 0 0 [.int (nI i), .int (nI n)] S (xt_Eq (some (.int (nI (xt_jo i n)))) S) := by
  refine xt_body (by decide +kernel) (xt_all rfl) (Nat.le_of_ble_eq_true rfl) (fun cx C hl9 => ?_)
  show xt_X E cx _ 0 0 0 [some (.int (nI i)), some (.int (nI n))] [] S
  refine xt_iload_n C dX4_joinedOf_0 rfl ?_
  refine xt_iconst (v := nI 1) C dX4_joinedOf_1 rfl ?_
  refine xt_ior C dX4_joinedOf_2 ?_
  rw [xt_or1 (by omega)]
  refine xt_iload_n C dX4_joinedOf_3 rfl ?_
  refine xt_icmp_geN (tgt := 11) C dX4_joinedOf_4 (by decide) (by omega) (by omega) (fun c4 => ?_) (fun c4 => ?_)
  · refine xt_iconst (v := nI 1) C dX4_joinedOf_11 rfl ?_
    exact xt_iret C dX4_joinedOf_12 ⟨by decide, by decide⟩ (xt_qI (by unfold xt_jo; first | rw [if_pos (by omega)] | rw [if_neg (by omega)]))
  · refine xt_iconst (v := nI 2) C dX4_joinedOf_7 rfl ?_
    refine xt_goto (tgt := 12) C dX4_joinedOf_8 (by decide) ?_
    exact xt_iret C dX4_joinedOf_12 ⟨by decide, by decide⟩ (xt_qI (by unfold xt_jo; first | rw [if_pos (by omega)] | rw [if_neg (by omega)]))
theorem xt_jo_b {i n : Nat} : 1 ≤ xt_jo i n ∧ xt_jo i n ≤ 2 := by unfold xt_jo; split <;> omega
theorem xt_jo_m {a b c d : Nat} : 1 ≤ xt_jo a b * xt_jo c d ∧ xt_jo a b * xt_jo c d ≤ 4 := ⟨Nat.mul_le_mul xt_jo_b.1 xt_jo_b.1, Nat.mul_le_mul xt_jo_b.2 xt_jo_b.2⟩
set_option maxRecDepth 20000 in
set_option maxHeartbeats 2000000 in
theorem ct_countJoined {lf tp w h dp bo : Nat} (hT : xt_Tn S lf tp w h dp bo) {x y : Nat} (hx : x < 8) (hy : y < 8) : xt_Ct E l yX4_countJoined cX4_countJoined 7 (some Jvm.ClassFile.FieldType.int) 1 21 0 0 [.ref (E.1 33), .int (nI x), .int (nI y)] S (xt_Eq (some (.int (nI (xt_need dp w h x y)))) S) := by
  refine xt_body (by decide +kernel) (xt_all rfl) (Nat.le_of_ble_eq_true rfl) (fun cx C hl9 => ?_)
  show xt_X E cx _ 0 0 0 [some (.ref (E.1 33)), some (.int (nI x)), some (.int (nI y)), none, none, none, none] [] S
  have hT9 := hT
  obtain ⟨t0, t1, t2, t3, t4, t5, g1, g2, g3, g4, g5, g6⟩ := hT
  have loop : ∀ (d i : Nat), i ≤ dp →  dp + 1 ≤ i + d → xt_X E cx (xt_ZM E cx 0 0 (xt_Eq (some (.int (nI (xt_need dp w h x y)))) S)) 0 0 5 [some (.ref (E.1 33)), some (.int (nI x)), some (.int (nI y)), some (.int (nI (xt_it (fun l s => s + (xt_jo (x / 2 ^ l) (xt_lo w l) * xt_jo (y / 2 ^ l) (xt_lo h l) - 1)) i 1))), some (.int (nI (i + 1))), none, none] [] S := by
    intro d
    induction d with
    | zero => intro i  h0i  h1i; exact absurd h1i (by omega)
    | succ d ih =>
      intro i  h0i  h1i
      refine xt_iload C dX4_countJoined_5 rfl ?_
      refine xt_aload_n C dX4_countJoined_7 rfl ?_
      refine xt_get (f := 4) C xt_u4 rfl (by decide) (xt_cl33 _ _) (by decide) lkX4_68 (xt_vI t4) dX4_countJoined_8 ?_
      refine xt_icmp_gtN (tgt := 74) C dX4_countJoined_11 (by decide) (by omega) (by omega) (fun c11 => ?_) (fun c11 => ?_)
      · refine xt_iload_n C dX4_countJoined_74 rfl ?_
        exact xt_iret C dX4_countJoined_75 ⟨by decide, by decide⟩ (xt_qI (by rw [show i = dp by omega]; rfl))
      · have w1 := xt_lo_le (n := w) (k := i) (by omega)
        have w2 := xt_lo_le (n := h) (k := i) (by omega)
        have d1 : x / 2 ^ i ≤ x := Nat.div_le_self _ _
        have d2 : y / 2 ^ i ≤ y := Nat.div_le_self _ _
        have jm := xt_jo_m (a := x / 2 ^ i) (b := xt_lo w i) (c := y / 2 ^ i) (d := xt_lo h i)
        refine xt_iload_n C dX4_countJoined_14 rfl ?_
        refine xt_iload C dX4_countJoined_15 rfl ?_
        refine xt_iconst (v := nI 1) C dX4_countJoined_17 rfl ?_
        refine xt_isubN C dX4_countJoined_18 (by omega) ?_
        rw [Nat.add_sub_cancel]
        refine xt_ishrN C dX4_countJoined_19 (by omega) (by omega) ?_
        refine xt_aload_n C dX4_countJoined_20 rfl ?_
        refine xt_get (f := 2) C xt_u4 rfl (by decide) (xt_cl33 _ _) (by decide) lkX4_55 (xt_vI t2) dX4_countJoined_21 ?_
        refine xt_iload C dX4_countJoined_24 rfl ?_
        refine xt_iconst (v := nI 1) C dX4_countJoined_26 rfl ?_
        refine xt_isubN C dX4_countJoined_27 (by omega) ?_
        rw [Nat.add_sub_cancel]
        refine xt_cS C ms_X4_lows lkX4_74 (ct_lows (by omega) (by omega)) rfl (by decide) rfl (Nat.le_of_ble_eq_true rfl) dX4_countJoined_28 ?_
        refine xt_cS C ms_X4_joinedOf lkX4_159 (ct_joinedOf (by omega) (by omega)) rfl (by decide) rfl (Nat.le_of_ble_eq_true rfl) dX4_countJoined_31 ?_
        refine xt_istore (lo' := [_, _, _, _, _, _, _]) C dX4_countJoined_34 (Nat.le_of_ble_eq_true rfl) rfl rfl ?_
        refine xt_iload_n C dX4_countJoined_36 rfl ?_
        refine xt_iload C dX4_countJoined_37 rfl ?_
        refine xt_iconst (v := nI 1) C dX4_countJoined_39 rfl ?_
        refine xt_isubN C dX4_countJoined_40 (by omega) ?_
        rw [Nat.add_sub_cancel]
        refine xt_ishrN C dX4_countJoined_41 (by omega) (by omega) ?_
        refine xt_aload_n C dX4_countJoined_42 rfl ?_
        refine xt_get (f := 3) C xt_u4 rfl (by decide) (xt_cl33 _ _) (by decide) lkX4_61 (xt_vI t3) dX4_countJoined_43 ?_
        refine xt_iload C dX4_countJoined_46 rfl ?_
        refine xt_iconst (v := nI 1) C dX4_countJoined_48 rfl ?_
        refine xt_isubN C dX4_countJoined_49 (by omega) ?_
        rw [Nat.add_sub_cancel]
        refine xt_cS C ms_X4_lows lkX4_74 (ct_lows (by omega) (by omega)) rfl (by decide) rfl (Nat.le_of_ble_eq_true rfl) dX4_countJoined_50 ?_
        refine xt_cS C ms_X4_joinedOf lkX4_159 (ct_joinedOf (by omega) (by omega)) rfl (by decide) rfl (Nat.le_of_ble_eq_true rfl) dX4_countJoined_53 ?_
        refine xt_istore (lo' := [_, _, _, _, _, _, _]) C dX4_countJoined_56 (Nat.le_of_ble_eq_true rfl) rfl rfl ?_
        refine xt_iload_n C dX4_countJoined_58 rfl ?_
        refine xt_iload C dX4_countJoined_59 rfl ?_
        refine xt_iload C dX4_countJoined_61 rfl ?_
        refine xt_imulN C dX4_countJoined_63 ?_
        refine xt_iconst (v := nI 1) C dX4_countJoined_64 rfl ?_
        refine xt_isubN C dX4_countJoined_65 (by omega) ?_
        refine xt_iaddN C dX4_countJoined_66 ?_
        refine xt_istore_n (lo' := [_, _, _, _, _, _, _]) C dX4_countJoined_67 (Nat.le_of_ble_eq_true rfl) rfl rfl ?_
        refine xt_iincN (z := 1) (lo' := [_, _, _, _, _, _, _]) C dX4_countJoined_68 rfl rfl rfl ?_
        refine xt_goto (tgt := 5) C dX4_countJoined_71 (by decide) ?_
        exact xt_fg (by repeat' constructor) (ih (i + 1) (by omega) (by omega))
  refine xt_iconst (v := nI 1) C dX4_countJoined_0 rfl ?_
  refine xt_istore_n (lo' := [_, _, _, _, _, _, _]) C dX4_countJoined_1 (Nat.le_of_ble_eq_true rfl) rfl rfl ?_
  refine xt_iconst (v := nI 1) C dX4_countJoined_2 rfl ?_
  refine xt_istore (lo' := [_, _, _, _, _, _, _]) C dX4_countJoined_3 (Nat.le_of_ble_eq_true rfl) rfl rfl ?_
  exact xt_fg (by repeat' constructor) (loop (dp + 1) 0 (by omega) (by omega))
/-- a number with its lowest planes taken as 0 -/
def xt_cut (a : Int32) (k : Nat) : Int32 := (a >>> (nI k &&& 31)) <<< (nI k &&& 31)
def xt_dv (v : Int32) (k : Nat) : Int32 := if v < 0 then -xt_cut (xt_abs v) k else xt_cut (xt_abs v) k
def xt_cl (x : Int32) : Int32 := if nI 0 < (if x < nI 255 then x else nI 255) then (if x < nI 255 then x else nI 255) else nI 0
theorem xt_jl_ag {z n i : Nat} {g g' : Nat → Int32} (h : ∀ j, j < n → g j = g' j) (hi : g i = g' i) : xt_jl z n g i = xt_jl z n g' i := by
  unfold xt_jl
  by_cases a : n ≤ i
  · rw [if_pos a, if_pos a, hi]
  · rw [if_neg a, if_neg a]
    have hlo : xt_lo n 1 = (n + 1) / 2 := by unfold xt_lo; rfl
    by_cases c : 2 * (i / 2) + 1 < n
    · rw [if_pos c, if_pos c, h (i / 2) (by omega), h (xt_lo n 1 + i / 2) (by omega)]
    · rw [if_neg c, if_neg c, h _ (by omega)]
theorem xt_jA_ag {w h z c r : Nat} {f g : Nat → Int32} (hw : w ≤ 8) (hc : c ≤ w) (hr : r ≤ h) (ha : xt_ag w h f g) : xt_ag w h (xt_jA z c r f) (xt_jA z c r g) := by
  have h1 : xt_ag w h (xt_C (xt_jl z r) c f) (xt_C (xt_jl z r) c g) := by
    intro p h2 h3
    unfold xt_C
    by_cases q : p % 8 < c
    · rw [if_pos q, if_pos q]
      exact xt_jl_ag (fun j hj => ha _ (by omega) (by omega)) (ha _ (by omega) (by omega))
    · rw [if_neg q, if_neg q, ha p h2 h3]
  intro p h2 h3
  unfold xt_jA xt_R
  by_cases q : p / 8 < r
  · rw [if_pos q, if_pos q]
    exact xt_jl_ag (fun j hj => h1 _ (by omega) (by omega)) (h1 _ (by omega) (by omega))
  · rw [if_neg q, if_neg q, h1 p h2 h3]
theorem xt_jn_ag {w h z : Nat} (hw : w ≤ 8) : ∀ {d : Nat} {f g : Nat → Int32}, d ≤ 4 → xt_ag w h f g → xt_ag w h (xt_jn z w h d f) (xt_jn z w h d g) := by
  intro d
  induction d with
  | zero => intro f g _ ha; exact ha
  | succ d ih => intro f g hd ha; exact ih (by omega) (xt_jA_ag hw (xt_lo_le (by omega)) (xt_lo_le (by omega)) ha)
set_option maxRecDepth 20000 in
set_option maxHeartbeats 2000000 in
theorem ct_decode {lf tp w h dp bo : Nat} (hT : xt_Tn S lf tp w h dp bo) {mm : Nat → Nat} (hmm : ∀ y x, y < h → x < w → S.2.1 38 (8 * y + x) = nI (mm (8 * y + x)) ∧ mm (8 * y + x) ≤ 1) {n : Nat} (hn : n ≤ 9) : xt_Ct E l yX4_decode cX4_decode 8 none 4 101 0 0 [.ref (E.1 33), .int (nI n)] S (xt_Ep none (fun S9 => ∃ g9 f9, S9 = xt_sA (xt_sA S 41 g9) 40 f9 ∧ ∀ p, xt_in w h p → f9 p = xt_cl (xt_jn 0 w h dp (fun p => xt_dv (S.2.1 35 p) (xt_mis (mm p) bo n)) p))) := by
  refine xt_body (by decide +kernel) (xt_all rfl) (Nat.le_of_ble_eq_true rfl) (fun cx C hl9 => ?_)
  show xt_X E cx _ 0 0 0 [some (.ref (E.1 33)), some (.int (nI n)), none, none, none, none, none, none] [] S
  have hT9 := hT
  obtain ⟨t0, t1, t2, t3, t4, t5, g1, g2, g3, g4, g5, g6⟩ := hT
  have clamp : ∀ (dc i : Nat) (k9 g J : Nat → Int32), i ≤ 64 → (∀ p, xt_in w h p → J p = xt_jn 0 w h dp (fun p => xt_dv (S.2.1 35 p) (xt_mis (mm p) bo n)) p) → (∀ p, p < i → g p = xt_cl (J p)) → (∀ p, i ≤ p → g p = J p) → 64 + 1 ≤ i + dc → xt_X E cx (xt_ZM E cx 0 0 (xt_Ep none (fun S9 => ∃ g9 f9, S9 = xt_sA (xt_sA S 41 g9) 40 f9 ∧ ∀ p, xt_in w h p → f9 p = xt_cl (xt_jn 0 w h dp (fun p => xt_dv (S.2.1 35 p) (xt_mis (mm p) bo n)) p)))) 0 0 101 [some (.ref (E.1 33)), some (.int (nI n)), some (.int (nI i)), none, none, none, none, none] [] (xt_sA (xt_sA S 41 k9) 40 g) := by
    intro dc
    induction dc with
    | zero => intro i k9 g J h0i hJ hg0 hg1 h1i; exact absurd h1i (by omega)
    | succ dc ihc =>
      intro i k9 g J h0i hJ hg0 hg1 h1i
      refine xt_iload_n C dX4_decode_101 rfl ?_
      refine xt_bipush (v := nI 64) C dX4_decode_102 (by decide) ?_
      refine xt_icmp_geN (tgt := 139) C dX4_decode_104 (by decide) (by omega) (by omega) (fun c104 => ?_) (fun c104 => ?_)
      · exact xt_vret C dX4_decode_139 ⟨by decide, by decide⟩ ⟨rfl, _, g, rfl, fun p hp => by rw [hg0 p (by have := xt_in64 g1 g2 hp; omega)]; exact congrArg xt_cl (hJ p hp)⟩
      · refine xt_aload_n C dX4_decode_107 rfl ?_
        refine xt_get (f := 12) C xt_u4 rfl (by decide) (xt_cl33 _ _) (by decide) lkX4_30 rfl dX4_decode_108 ?_
        refine xt_iload_n C dX4_decode_111 rfl ?_
        refine xt_iconst (v := nI 0) C dX4_decode_112 rfl ?_
        refine xt_sipush (v := nI 255) C dX4_decode_113 (by decide) ?_
        refine xt_aload_n C dX4_decode_116 rfl ?_
        refine xt_get (f := 12) C xt_u4 rfl (by decide) (xt_cl33 _ _) (by decide) lkX4_30 rfl dX4_decode_117 ?_
        refine xt_iload_n C dX4_decode_120 rfl ?_
        refine xt_cSN C ms_X5_at lkX4_84 (ct_at (by decide) (xt_cl40 _) (by decide) (by omega) (v := J i) (by rw [xt_sA_s]; exact hg1 i (by omega))) rfl (by decide) rfl (Nat.le_of_ble_eq_true rfl) dX4_decode_121 ?_
        refine xt_mmin C lkX4_114 mw_min rfl ⟨by decide, Nat.le_of_ble_eq_true rfl, by decide, by decide⟩ dX4_decode_124 ?_
        refine xt_mmax C lkX4_136 mw_max rfl ⟨by decide, Nat.le_of_ble_eq_true rfl, by decide, by decide⟩ dX4_decode_127 ?_
        rw [show (if nI 0 < (if J i < nI 255 then J i else nI 255) then (if J i < nI 255 then J i else nI 255) else nI 0) = xt_cl (J i) from rfl]
        refine xt_cSNn C ms_X5_put lkX4_91 (ct_put (by decide) (xt_cl40 _) (by decide) (by omega)) rfl (by decide) rfl (Nat.le_of_ble_eq_true rfl) dX4_decode_130 ?_
        refine xt_iincN (z := 1) (lo' := [_, _, _, _, _, _, _, _]) C dX4_decode_133 rfl rfl rfl ?_
        refine xt_goto (tgt := 101) C dX4_decode_136 (by decide) ?_
        simp only [xt_sA_s, xt_sA_sA]
        exact ihc (i + 1) k9 _ J (by omega) hJ (fun p hp => by by_cases z : p = i; subst z; exact xt_up_s; rw [xt_up_n z]; exact hg0 p (by omega)) (fun p hp => by rw [xt_up_n (by omega)]; exact hg1 p (by omega)) (by omega)
  have out1 : ∀ (d1 y : Nat) (g : Nat → Int32), y ≤ h → (∀ y9 x9, y9 < h → x9 < w → (y9 < y ∨ (y9 = y ∧ x9 < 0)) → g (8 * y9 + x9) = xt_dv (S.2.1 35 (8 * y9 + x9)) (xt_mis (mm (8 * y9 + x9)) bo n)) → h + 1 ≤ y + d1 → xt_X E cx (xt_ZM E cx 0 0 (xt_Ep none (fun S9 => ∃ g9 f9, S9 = xt_sA (xt_sA S 41 g9) 40 f9 ∧ ∀ p, xt_in w h p → f9 p = xt_cl (xt_jn 0 w h dp (fun p => xt_dv (S.2.1 35 p) (xt_mis (mm p) bo n)) p)))) 0 0 2 [some (.ref (E.1 33)), some (.int (nI n)), some (.int (nI y)), none, none, none, none, none] [] (xt_sA S 40 g) := by
    intro d1
    induction d1 with
    | zero => intro y g h0y hg h1y; exact absurd h1y (by omega)
    | succ d1 ih1 =>
      intro y g h0y hg h1y
      refine xt_iload_n C dX4_decode_2 rfl ?_
      refine xt_aload_n C dX4_decode_3 rfl ?_
      refine xt_get (f := 3) C xt_u4 rfl (by decide) (xt_cl33 _ _) (by decide) lkX4_61 (xt_vI t3) dX4_decode_4 ?_
      refine xt_icmp_geN (tgt := 94) C dX4_decode_7 (by decide) (by omega) (by omega) (fun c7 => ?_) (fun c7 => ?_)
      · refine xt_aload_n C dX4_decode_94 rfl ?_
        refine xt_iconst (v := nI 0) C dX4_decode_95 rfl ?_
        refine xt_cVpn C mv_X4_joinLevels lkX4_165 (ct_joinLevels (by exact hT9) (by decide)) rfl (by decide) (xt_cl33 _ _) rfl (by decide) rfl (Nat.le_of_ble_eq_true rfl) dX4_decode_96 (fun S9 hq9 => ?_)
        obtain ⟨g9, rfl⟩ := hq9
        refine xt_iconst (v := nI 0) C dX4_decode_99 rfl ?_
        refine xt_istore_n (lo' := [_, _, _, _, _, _, _, _]) C dX4_decode_100 (Nat.le_of_ble_eq_true rfl) rfl rfl ?_
        rw [show (xt_sA S 40 g).2.1 40 = g from rfl, xt_sA_cm (i := 40) (j := 41) (by decide), xt_sA_sA]
        exact xt_fg (by repeat' constructor) (clamp (64 + 1) 0 g9 _ (xt_jn 0 w h dp g) (by omega) (fun p hp => xt_jn_ag g1 (by omega) (fun p h1 h2 => by rw [show p = 8 * (p / 8) + p % 8 by omega]; exact hg _ _ h2 h1 (by omega)) p hp.1 hp.2) (fun p hp => absurd hp (Nat.not_lt_zero _)) (fun p hp => rfl) (by omega))
      · refine xt_iconst (v := nI 0) C dX4_decode_10 rfl ?_
        refine xt_istore_n (lo' := [_, _, _, _, _, _, _, _]) C dX4_decode_11 (Nat.le_of_ble_eq_true rfl) rfl rfl ?_
        have in2 : ∀ (d2 x : Nat) (g : Nat → Int32), x ≤ w → (∀ y9 x9, y9 < h → x9 < w → (y9 < y ∨ (y9 = y ∧ x9 < x)) → g (8 * y9 + x9) = xt_dv (S.2.1 35 (8 * y9 + x9)) (xt_mis (mm (8 * y9 + x9)) bo n)) → w + 1 ≤ x + d2 → xt_X E cx (xt_ZM E cx 0 0 (xt_Ep none (fun S9 => ∃ g9 f9, S9 = xt_sA (xt_sA S 41 g9) 40 f9 ∧ ∀ p, xt_in w h p → f9 p = xt_cl (xt_jn 0 w h dp (fun p => xt_dv (S.2.1 35 p) (xt_mis (mm p) bo n)) p)))) 0 0 12 [some (.ref (E.1 33)), some (.int (nI n)), some (.int (nI y)), some (.int (nI x)), none, none, none, none] [] (xt_sA S 40 g) := by
          intro d2
          induction d2 with
          | zero => intro x g h0x hg h1x; exact absurd h1x (by omega)
          | succ d2 ih2 =>
            intro x g h0x hg h1x
            refine xt_iload_n C dX4_decode_12 rfl ?_
            refine xt_aload_n C dX4_decode_13 rfl ?_
            refine xt_get (f := 2) C xt_u4 rfl (by decide) (xt_cl33 _ _) (by decide) lkX4_55 (xt_vI t2) dX4_decode_14 ?_
            refine xt_icmp_geN (tgt := 88) C dX4_decode_17 (by decide) (by omega) (by omega) (fun c17 => ?_) (fun c17 => ?_)
            · refine xt_iincN (z := 1) (lo' := [_, _, _, _, _, _, _, _]) C dX4_decode_88 rfl rfl rfl ?_
              refine xt_goto (tgt := 2) C dX4_decode_91 (by decide) ?_
              exact xt_fg (by repeat' constructor) (ih1 (y + 1) g (by omega) (fun y9 x9 z1 z2 z3 => hg y9 x9 z1 z2 (by omega)) (by omega))
            · refine xt_iload_n C dX4_decode_20 rfl ?_
              refine xt_iload_n C dX4_decode_21 rfl ?_
              refine xt_cSN C ms_X5_placeOf lkX4_88 ct_place rfl (by decide) rfl (Nat.le_of_ble_eq_true rfl) dX4_decode_22 ?_
              refine xt_istore (lo' := [_, _, _, _, _, _, _, _]) C dX4_decode_25 (Nat.le_of_ble_eq_true rfl) rfl rfl ?_
              refine xt_aload_n C dX4_decode_27 rfl ?_
              refine xt_get (f := 7) C xt_u4 rfl (by decide) (xt_cl33 _ _) (by decide) lkX4_15 rfl dX4_decode_28 ?_
              refine xt_iload C dX4_decode_31 rfl ?_
              refine xt_cSN C ms_X5_at lkX4_84 (ct_at (by decide) (xt_cl35 _) (by decide) (by omega) (v := S.2.1 35 (8 * y + x)) rfl) rfl (by decide) rfl (Nat.le_of_ble_eq_true rfl) dX4_decode_33 ?_
              refine xt_istore (lo' := [_, _, _, _, _, _, _, _]) C dX4_decode_36 (Nat.le_of_ble_eq_true rfl) rfl rfl ?_
              refine xt_aload_n C dX4_decode_38 rfl ?_
              refine xt_iload C dX4_decode_39 rfl ?_
              refine xt_iload_n C dX4_decode_41 rfl ?_
              refine xt_cV C mv_X4_missingPlanes lkX4_162 (ct_missing (m := mm (8 * y + x)) (by exact hT9) (by omega) (by exact (hmm y x (by omega) (by omega)).1) (hmm y x (by omega) (by omega)).2 hn) rfl (by decide) (xt_cl33 _ _) rfl (by decide) rfl (Nat.le_of_ble_eq_true rfl) dX4_decode_42 ?_
              refine xt_istore (lo' := [_, _, _, _, _, _, _, _]) C dX4_decode_45 (Nat.le_of_ble_eq_true rfl) rfl rfl ?_
              refine xt_iload C dX4_decode_47 rfl ?_
              refine xt_cSN C ms_X5_amountOf lkX4_145 ct_amount rfl (by decide) rfl (Nat.le_of_ble_eq_true rfl) dX4_decode_49 ?_
              refine xt_iload C dX4_decode_52 rfl ?_
              refine xt_ishr C dX4_decode_54 ?_
              refine xt_iload C dX4_decode_55 rfl ?_
              refine xt_ishl C dX4_decode_57 ?_
              rw [show (_ >>> _) <<< (nI (xt_mis (mm (8 * y + x)) bo n) &&& 31) = xt_cut (xt_abs (S.2.1 35 (8 * y + x))) (xt_mis (mm (8 * y + x)) bo n) from rfl]
              refine xt_istore (lo' := [_, _, _, _, _, _, _, _]) C dX4_decode_58 (Nat.le_of_ble_eq_true rfl) rfl rfl ?_
              refine xt_aload_n C dX4_decode_60 rfl ?_
              refine xt_get (f := 12) C xt_u4 rfl (by decide) (xt_cl33 _ _) (by decide) lkX4_30 rfl dX4_decode_61 ?_
              refine xt_iload C dX4_decode_64 rfl ?_
              refine xt_iload C dX4_decode_66 rfl ?_
              refine xt_if_ge (tgt := 77) C dX4_decode_68 (by decide) (fun c68 => ?_) (fun c68 => ?_)
              · refine xt_iload C dX4_decode_77 rfl ?_
                refine xt_cSNn C ms_X5_put lkX4_91 (ct_put (by decide) (xt_cl40 _) (by decide) (by omega)) rfl (by decide) rfl (Nat.le_of_ble_eq_true rfl) dX4_decode_79 ?_
                refine xt_iincN (z := 1) (lo' := [_, _, _, _, _, _, _, _]) C dX4_decode_82 rfl rfl rfl ?_
                refine xt_goto (tgt := 12) C dX4_decode_85 (by decide) ?_
                simp only [xt_sA_s, xt_sA_sA]
                exact xt_fg (by repeat' constructor) (ih2 (x + 1) _ (by omega) (fun y9 x9 z1 z2 z3 => by
                  by_cases z : y9 = y ∧ x9 = x
                  · obtain ⟨rfl, rfl⟩ := z
                    rw [xt_up_s]; unfold xt_dv
                    first
                    | rw [if_pos (Int32.not_le.mp c68)]
                    | rw [if_neg (Int32.not_lt.mpr c68)]
                  · rw [xt_up_n (by omega)]; exact hg y9 x9 z1 z2 (by omega)) (by omega))
              · refine xt_iload C dX4_decode_71 rfl ?_
                refine xt_ineg C dX4_decode_73 ?_
                refine xt_goto (tgt := 79) C dX4_decode_74 (by decide) ?_
                refine xt_cSNn C ms_X5_put lkX4_91 (ct_put (by decide) (xt_cl40 _) (by decide) (by omega)) rfl (by decide) rfl (Nat.le_of_ble_eq_true rfl) dX4_decode_79 ?_
                refine xt_iincN (z := 1) (lo' := [_, _, _, _, _, _, _, _]) C dX4_decode_82 rfl rfl rfl ?_
                refine xt_goto (tgt := 12) C dX4_decode_85 (by decide) ?_
                simp only [xt_sA_s, xt_sA_sA]
                exact xt_fg (by repeat' constructor) (ih2 (x + 1) _ (by omega) (fun y9 x9 z1 z2 z3 => by
                  by_cases z : y9 = y ∧ x9 = x
                  · obtain ⟨rfl, rfl⟩ := z
                    rw [xt_up_s]; unfold xt_dv
                    first
                    | rw [if_pos (Int32.not_le.mp c68)]
                    | rw [if_neg (Int32.not_lt.mpr c68)]
                  · rw [xt_up_n (by omega)]; exact hg y9 x9 z1 z2 (by omega)) (by omega))
        exact xt_fg (by repeat' constructor) (in2 (w + 1) 0 g (by omega) (fun y9 x9 z1 z2 z3 => hg y9 x9 z1 z2 (by omega)) (by omega))
  refine xt_iconst (v := nI 0) C dX4_decode_0 rfl ?_
  refine xt_istore_n (lo' := [_, _, _, _, _, _, _, _]) C dX4_decode_1 (Nat.le_of_ble_eq_true rfl) rfl rfl ?_
  have h9 := out1 (h + 1) 0 (S.2.1 40) (by omega) (fun y9 x9 z1 z2 z3 => by omega) (by omega)
  rw [xt_sA_self] at h9
  exact xt_fg (by repeat' constructor) h9
end XC15
