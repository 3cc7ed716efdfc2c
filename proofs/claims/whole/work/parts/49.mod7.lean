/-! THE MODEL: differs, worstOf, bitsOf -/
section XM7
variable {E : xt_Ev} {l : Launch} {S : xt_St}
theorem xt_tV_at {c sd t x y : Nat} {v : Nat → Int32} (hx : x < 8) : xt_tV c sd t v (8 * y + x) = v ((xt_gt c sd t + y) * c + (xt_gl c sd t + x)) := by
  unfold xt_tV xt_V
  rw [show (8 * y + x) / 8 = y by omega, show (8 * y + x) % 8 = x by omega]
/-- the amounts of a tile's coefficients are below 512 -/
theorem xt_tA {c r sd pl t : Nat} {v : Nat → Int32} (hc : 2 ≤ c ∧ c ≤ 16) (hr : 2 ≤ r ∧ r ≤ 16) (hs : sd = 2 ∨ sd = 4 ∨ sd = 8) (ht : t < xt_nt c r sd) (hv : ∀ j, j < 256 → ∃ m, m ≤ 255 ∧ v j = nI m) : ∀ y x, y < xt_gh c r sd t → x < xt_gw c sd t → ∃ a, a < 512 ∧ xt_abs (xt_tC c r sd pl t v (8 * y + x)) = nI a := by
  intro y x hy hx
  have hT := xt_tile_b hc hr hs ht
  refine xt_abs_r ((xt_co_r (f := xt_tV c sd t v) (by omega) (fun x y a b => ?_) (xt_tD c r sd pl t) xt_dep_le.2 x y hx hy).2)
  rw [xt_tV_at (by omega)]
  obtain ⟨m, hm, e⟩ := hv _ (xt_ix (c := c) (r := r) (x := xt_gl c sd t + x) (y := xt_gt c sd t + y) (by omega) (by omega) hc.2 hr.2).1
  rw [e]
  unfold xt_rI
  rw [nI_toInt (by omega)]
  omega
def xt_bq (a : Int32) (ly m bo : Nat) (k : Nat) (s : Int32) : Int32 := xt_it (fun p s => if xt_lay m bo p = ly then s + (if a >>> (nI p &&& 31) = nI 1 then nI 2 else nI 1) else s) k s
theorem xt_bq0 {a s : Int32} {ly m bo p : Nat} (h : ¬ xt_lay m bo p = ly) : xt_bq a ly m bo (p + 1) s = xt_bq a ly m bo p s := by
  show (if xt_lay m bo p = ly then _ else _) = _
  rw [if_neg h]
  rfl
theorem xt_bq2 {a s : Int32} {ly m bo p : Nat} (h : xt_lay m bo p = ly) (g : a >>> (nI p &&& 31) = nI 1) : xt_bq a ly m bo (p + 1) s = xt_bq a ly m bo p s + nI 2 := by
  show (if xt_lay m bo p = ly then _ else _) = _
  rw [if_pos h, if_pos g]
  rfl
theorem xt_bq1 {a s : Int32} {ly m bo p : Nat} (h : xt_lay m bo p = ly) (g : ¬ a >>> (nI p &&& 31) = nI 1) : xt_bq a ly m bo (p + 1) s = xt_bq a ly m bo p s + nI 1 := by
  show (if xt_lay m bo p = ly then _ else _) = _
  rw [if_pos h, if_neg g]
  rfl
theorem xt_bq_e {a s : Int32} {ly m bo : Nat} (hly : ly ≤ 8) : xt_bq a ly m bo 9 s = s + xt_bits a (nI ly) m bo := by
  have key : ∀ k, k ≤ 9 → xt_bq a ly m bo k s = s + xt_it (fun p s => if nI ly = -1 ∨ nI (xt_lay m bo p) = nI ly then s + (if a >>> (nI p &&& 31) = nI 1 then nI 2 else nI 1) else s) k 0 := by
    intro k
    induction k with
    | zero => intro _; exact (Int32.add_zero s).symm
    | succ k ih =>
      intro hk
      have h1 : ¬ nI ly = -1 := by
        have h9 := co_dec (N := 9) (P := fun ly => ¬ nI ly = -1) (by decide +kernel) (show ly < 9 by omega)
        exact h9
      have h2 : xt_lay m bo k ≤ 8 := by unfold xt_lay; split <;> omega
      by_cases z : xt_lay m bo k = ly
      · show (if xt_lay m bo k = ly then _ else _) = s + (if nI ly = -1 ∨ nI (xt_lay m bo k) = nI ly then _ else _)
        rw [if_pos z, if_pos (Or.inr (by rw [z]))]
        show xt_bq a ly m bo k s + _ = _
        rw [ih (by omega), Int32.add_assoc]
      · show (if xt_lay m bo k = ly then _ else _) = s + (if nI ly = -1 ∨ nI (xt_lay m bo k) = nI ly then _ else _)
        rw [if_neg z, if_neg (fun q => q.elim h1 (fun q => z ((nI_eq (by omega) (by omega)).mp q)))]
        exact ih (by omega)
  exact key 9 (Nat.le_refl _)
set_option maxRecDepth 20000 in
set_option maxHeartbeats 2000000 in
theorem ct_differs {c r sd lv bo : Nat} (hM : xt_Mp S c r sd lv bo) {t : Nat} (ht : t < xt_nt c r sd) {x y : Nat} (hx : x < (xt_gw c sd t)) (hy : y < (xt_gh c r sd t)) (hMt : xt_Mt S (xt_gl c sd t) (xt_gt c sd t) (xt_gw c sd t) (xt_gh c r sd t) (xt_tD c r sd lv t)) {a b : Int32} (ha : S.2.1 61 (8 * y + x) = a) (hb9 : xt_mV S (((xt_gt c sd t) + y) * c + ((xt_gl c sd t) + x)) = b) : xt_Ct E l yX6_differs cX6_differs 3 (some Jvm.ClassFile.FieldType.int) 2 42 0 0 [.ref (E.1 49), .int (nI x), .int (nI y)] S (xt_Eq (some (.int (xt_abs (a - b)))) S) := by
  refine xt_body (by decide +kernel) (xt_all rfl) (Nat.le_of_ble_eq_true rfl) (fun cx C hl9 => ?_)
  show xt_X E cx _ 0 0 0 [some (.ref (E.1 49)), some (.int (nI x)), some (.int (nI y))] [] S
  have hM9 := hM
  obtain ⟨hc, hr, hs, hv, hb, b1, b2, b3, b4, b5, b6, b7⟩ := hM
  have hn := xt_nt_b ⟨b1, b2⟩ ⟨b3, b4⟩ b5
  have hT := xt_tile_b ⟨b1, b2⟩ ⟨b3, b4⟩ b5 ht
  have hdl : (xt_tD c r sd lv t) ≤ 3 := xt_dep_le.2
  obtain ⟨m1, m2, m3, m4, g1, g2, g3, g4, g5, g6, g7⟩ := id hMt
  have hix := (xt_ix (c := c) (r := r) (x := (xt_gl c sd t) + x) (y := (xt_gt c sd t) + y) (by omega) (by omega) b2 b4).1
  refine xt_aload_n C dX6_differs_0 rfl ?_
  refine xt_get (f := 23) C xt_u6 rfl (by decide) (xt_cl49 _ _) (by decide) lkX6_51 rfl dX6_differs_1 ?_
  refine xt_aload_n C dX6_differs_4 rfl ?_
  refine xt_iload_n C dX6_differs_5 rfl ?_
  refine xt_iload_n C dX6_differs_6 rfl ?_
  refine xt_cV C mv_X6_place lkX6_116 ct_mplace rfl (by decide) (xt_cl49 _ _) rfl (by decide) rfl (Nat.le_of_ble_eq_true rfl) dX6_differs_7 ?_
  refine xt_ialdN C (by decide) (xt_cl61 _) (by omega) (by decide) ha dX6_differs_10 ?_
  refine xt_aload_n C dX6_differs_11 rfl ?_
  refine xt_aload_n C dX6_differs_12 rfl ?_
  refine xt_get (f := 16) C xt_u6 rfl (by decide) (xt_cl49 _ _) (by decide) lkX6_97 (xt_vI m1) dX6_differs_13 ?_
  refine xt_iload_n C dX6_differs_16 rfl ?_
  refine xt_iaddN C dX6_differs_17 ?_
  refine xt_aload_n C dX6_differs_18 rfl ?_
  refine xt_get (f := 17) C xt_u6 rfl (by decide) (xt_cl49 _ _) (by decide) lkX6_100 (xt_vI m2) dX6_differs_19 ?_
  refine xt_iload_n C dX6_differs_22 rfl ?_
  refine xt_iaddN C dX6_differs_23 ?_
  refine xt_cV C mv_X6_value lkX6_119 (ct_mvalue (by exact hM9) (by exact hix)) rfl (by decide) (xt_cl49 _ _) rfl (by decide) rfl (Nat.le_of_ble_eq_true rfl) dX6_differs_24 ?_
  rw [hb9]
  refine xt_isub C dX6_differs_27 ?_
  refine xt_mabs C lkX6_132 mw_abs rfl ⟨by decide, Nat.le_of_ble_eq_true rfl, by decide, by decide⟩ dX6_differs_28 ?_
  rw [xt_ab]
  exact xt_iret C dX6_differs_31 ⟨by decide, by decide⟩ ⟨rfl, rfl⟩
set_option maxRecDepth 20000 in
set_option maxHeartbeats 2000000 in
theorem ct_worstOf {c r sd lv bo : Nat} (hM : xt_Mp S c r sd lv bo) {t : Nat} (ht : t < xt_nt c r sd) {v k J : Nat → Int32} (hL : xt_ML S c r sd lv t v k) (hvv : ∀ j, j < 256 → xt_mV S j = v j) (hJ : ∀ y x, y < (xt_gh c r sd t) → x < (xt_gw c sd t) → S.2.1 61 (8 * y + x) = J (8 * y + x)) : xt_Ct E l yX6_worstOf cX6_worstOf 4 (some Jvm.ClassFile.FieldType.int) 3 64 0 0 [.ref (E.1 49)] S (xt_Eq (some (.int (xt_mx2 (fun x y => xt_abs (J (8 * y + x) - xt_tV c sd t v (8 * y + x))) (xt_gw c sd t) (xt_gh c r sd t)))) S) := by
  refine xt_body (by decide +kernel) (xt_all rfl) (Nat.le_of_ble_eq_true rfl) (fun cx C hl9 => ?_)
  show xt_X E cx _ 0 0 0 [some (.ref (E.1 49)), none, none, none] [] S
  have hM9 := hM
  obtain ⟨hc, hr, hs, hv, hb, b1, b2, b3, b4, b5, b6, b7⟩ := hM
  have hn := xt_nt_b ⟨b1, b2⟩ ⟨b3, b4⟩ b5
  have hT := xt_tile_b ⟨b1, b2⟩ ⟨b3, b4⟩ b5 ht
  have hdl : (xt_tD c r sd lv t) ≤ 3 := xt_dep_le.2
  have hMt := hL.1
  obtain ⟨m1, m2, m3, m4, g1, g2, g3, g4, g5, g6, g7⟩ := id hMt
  have out1 : ∀ (d1 y : Nat), y ≤ (xt_gh c r sd t) →  (xt_gh c r sd t) + 1 ≤ y + d1 → xt_X E cx (xt_ZM E cx 0 0 (xt_Eq (some (.int (xt_mx2 (fun x y => xt_abs (J (8 * y + x) - xt_tV c sd t v (8 * y + x))) (xt_gw c sd t) (xt_gh c r sd t)))) S)) 0 0 4 [some (.ref (E.1 49)), some (.int (xt_it (fun y s => xt_it (fun x s => if s < xt_abs (J (8 * y + x) - xt_tV c sd t v (8 * y + x)) then xt_abs (J (8 * y + x) - xt_tV c sd t v (8 * y + x)) else s) (xt_gw c sd t) s) y 0)), some (.int (nI y)), none] [] S := by
    intro d1
    induction d1 with
    | zero => intro y  h0y  h1y; exact absurd h1y (by omega)
    | succ d1 ih1 =>
      intro y  h0y  h1y
      refine xt_iload_n C dX6_worstOf_4 rfl ?_
      refine xt_aload_n C dX6_worstOf_5 rfl ?_
      refine xt_get (f := 20) C xt_u6 rfl (by decide) (xt_cl49 _ _) (by decide) lkX6_41 rfl dX6_worstOf_6 ?_
      refine xt_iconst (v := nI 0) C dX6_worstOf_9 rfl ?_
      refine xt_ialdN C (by decide) (xt_cl58 _) (by decide) (by decide) (show S.2.1 58 0 = nI (xt_gh c r sd t) from by rw [(m4 0 (by omega)).2, xt_lo_0]) dX6_worstOf_10 ?_
      refine xt_icmp_geN (tgt := 49) C dX6_worstOf_11 (by decide) (by omega) (by omega) (fun c11 => ?_) (fun c11 => ?_)
      · refine xt_iload_n C dX6_worstOf_49 rfl ?_
        exact xt_iret C dX6_worstOf_50 ⟨by decide, by decide⟩ (xt_qI (by rw [show y = (xt_gh c r sd t) by omega]; rfl))
      · refine xt_iconst (v := nI 0) C dX6_worstOf_14 rfl ?_
        refine xt_istore_n (lo' := [_, _, _, _]) C dX6_worstOf_15 (Nat.le_of_ble_eq_true rfl) rfl rfl ?_
        have in2 : ∀ (d2 x : Nat), x ≤ (xt_gw c sd t) →  (xt_gw c sd t) + 1 ≤ x + d2 → xt_X E cx (xt_ZM E cx 0 0 (xt_Eq (some (.int (xt_mx2 (fun x y => xt_abs (J (8 * y + x) - xt_tV c sd t v (8 * y + x))) (xt_gw c sd t) (xt_gh c r sd t)))) S)) 0 0 16 [some (.ref (E.1 49)), some (.int (xt_it (fun x s => if s < xt_abs (J (8 * y + x) - xt_tV c sd t v (8 * y + x)) then xt_abs (J (8 * y + x) - xt_tV c sd t v (8 * y + x)) else s) x (xt_it (fun y s => xt_it (fun x s => if s < xt_abs (J (8 * y + x) - xt_tV c sd t v (8 * y + x)) then xt_abs (J (8 * y + x) - xt_tV c sd t v (8 * y + x)) else s) (xt_gw c sd t) s) y 0))), some (.int (nI y)), some (.int (nI x))] [] S := by
          intro d2
          induction d2 with
          | zero => intro x  h0x  h1x; exact absurd h1x (by omega)
          | succ d2 ih2 =>
            intro x  h0x  h1x
            refine xt_iload_n C dX6_worstOf_16 rfl ?_
            refine xt_aload_n C dX6_worstOf_17 rfl ?_
            refine xt_get (f := 19) C xt_u6 rfl (by decide) (xt_cl49 _ _) (by decide) lkX6_38 rfl dX6_worstOf_18 ?_
            refine xt_iconst (v := nI 0) C dX6_worstOf_21 rfl ?_
            refine xt_ialdN C (by decide) (xt_cl57 _) (by decide) (by decide) (show S.2.1 57 0 = nI (xt_gw c sd t) from by rw [(m4 0 (by omega)).1, xt_lo_0]) dX6_worstOf_22 ?_
            refine xt_icmp_geN (tgt := 43) C dX6_worstOf_23 (by decide) (by omega) (by omega) (fun c23 => ?_) (fun c23 => ?_)
            · refine xt_iincN (z := 1) (lo' := [_, _, _, _]) C dX6_worstOf_43 rfl rfl rfl ?_
              refine xt_goto (tgt := 4) C dX6_worstOf_46 (by decide) ?_
              have hx9 : x = (xt_gw c sd t) := by omega
              subst hx9
              exact xt_fg (by repeat' constructor) (ih1 (y + 1) (by omega)  (by omega))
            · refine xt_iload_n C dX6_worstOf_26 rfl ?_
              refine xt_aload_n C dX6_worstOf_27 rfl ?_
              refine xt_iload_n C dX6_worstOf_28 rfl ?_
              refine xt_iload_n C dX6_worstOf_29 rfl ?_
              refine xt_cV C mv_X6_differs lkX6_139 (ct_differs (by exact hM9) ht (by omega) (by omega) hMt (hJ y x (by omega) (by omega)) (b := xt_tV c sd t v (8 * y + x)) ((hvv _ (xt_ix (c := c) (r := r) (by omega) (by omega) b2 b4).1).trans (xt_tV_at (by omega)).symm)) rfl (by decide) (xt_cl49 _ _) rfl (by decide) rfl (Nat.le_of_ble_eq_true rfl) dX6_worstOf_30 ?_
              refine xt_mmax C lkX6_126 mw_max rfl ⟨by decide, Nat.le_of_ble_eq_true rfl, by decide, by decide⟩ dX6_worstOf_33 ?_
              refine xt_istore_n (lo' := [_, _, _, _]) C dX6_worstOf_36 (Nat.le_of_ble_eq_true rfl) rfl rfl ?_
              refine xt_iincN (z := 1) (lo' := [_, _, _, _]) C dX6_worstOf_37 rfl rfl rfl ?_
              refine xt_goto (tgt := 16) C dX6_worstOf_40 (by decide) ?_
              have h9 := ih2 (x + 1) (by omega)  (by omega)
              exact xt_fg (by repeat' constructor) h9
        exact xt_fg (by repeat' constructor) (in2 ((xt_gw c sd t) + 1) 0 (by omega)  (by omega))
  refine xt_iconst (v := nI 0) C dX6_worstOf_0 rfl ?_
  refine xt_istore_n (lo' := [_, _, _, _]) C dX6_worstOf_1 (Nat.le_of_ble_eq_true rfl) rfl rfl ?_
  refine xt_iconst (v := nI 0) C dX6_worstOf_2 rfl ?_
  refine xt_istore_n (lo' := [_, _, _, _]) C dX6_worstOf_3 (Nat.le_of_ble_eq_true rfl) rfl rfl ?_
  exact xt_fg (by repeat' constructor) (out1 ((xt_gh c r sd t) + 1) 0 (by omega) (by omega))
set_option maxRecDepth 20000 in
set_option maxHeartbeats 2000000 in
theorem ct_bitsOf {c r sd lv bo : Nat} (hM : xt_Mp S c r sd lv bo) {t : Nat} (ht : t < xt_nt c r sd) {v k : Nat → Int32} (hL : xt_ML S c r sd lv t v k) {ly : Nat} (hly : ly ≤ 8) : xt_Ct E l yX6_bitsOf cX6_bitsOf 8 (some Jvm.ClassFile.FieldType.int) 2 43 0 0 [.ref (E.1 49), .int (nI ly)] S (xt_Eq (some (.int (xt_tB c r sd lv bo t (nI ly) v k))) S) := by
  refine xt_body (by decide +kernel) (xt_all rfl) (Nat.le_of_ble_eq_true rfl) (fun cx C hl9 => ?_)
  show xt_X E cx _ 0 0 0 [some (.ref (E.1 49)), some (.int (nI ly)), none, none, none, none, none, none] [] S
  have hM9 := hM
  obtain ⟨hc, hr, hs, hv, hb, b1, b2, b3, b4, b5, b6, b7⟩ := hM
  have hn := xt_nt_b ⟨b1, b2⟩ ⟨b3, b4⟩ b5
  have hT := xt_tile_b ⟨b1, b2⟩ ⟨b3, b4⟩ b5 ht
  have hdl : (xt_tD c r sd lv t) ≤ 3 := xt_dep_le.2
  have hMt := hL.1
  obtain ⟨m1, m2, m3, m4, g1, g2, g3, g4, g5, g6, g7⟩ := id hMt
  have out1 : ∀ (d1 y : Nat), y ≤ (xt_gh c r sd t) →  (xt_gh c r sd t) + 1 ≤ y + d1 → xt_X E cx (xt_ZM E cx 0 0 (xt_Eq (some (.int (xt_tB c r sd lv bo t (nI ly) v k))) S)) 0 0 4 [some (.ref (E.1 49)), some (.int (nI ly)), some (.int (xt_it (fun y s => xt_it (fun x s => s + xt_bits (xt_abs (xt_tC c r sd lv t v (8 * y + x))) (nI ly) (xt_tM c r sd lv t k (8 * y + x)) bo) (xt_gw c sd t) s) y 0)), some (.int (nI y)), none, none, none, none] [] S := by
    intro d1
    induction d1 with
    | zero => intro y  h0y  h1y; exact absurd h1y (by omega)
    | succ d1 ih1 =>
      intro y  h0y  h1y
      refine xt_iload_n C dX6_bitsOf_4 rfl ?_
      refine xt_aload_n C dX6_bitsOf_5 rfl ?_
      refine xt_get (f := 20) C xt_u6 rfl (by decide) (xt_cl49 _ _) (by decide) lkX6_41 rfl dX6_bitsOf_6 ?_
      refine xt_iconst (v := nI 0) C dX6_bitsOf_9 rfl ?_
      refine xt_ialdN C (by decide) (xt_cl58 _) (by decide) (by decide) (show S.2.1 58 0 = nI (xt_gh c r sd t) from by rw [(m4 0 (by omega)).2, xt_lo_0]) dX6_bitsOf_10 ?_
      refine xt_icmp_geN (tgt := 109) C dX6_bitsOf_11 (by decide) (by omega) (by omega) (fun c11 => ?_) (fun c11 => ?_)
      · refine xt_iload_n C dX6_bitsOf_109 rfl ?_
        exact xt_iret C dX6_bitsOf_110 ⟨by decide, by decide⟩ (xt_qI (by rw [show y = (xt_gh c r sd t) by omega]; rfl))
      · refine xt_iconst (v := nI 0) C dX6_bitsOf_14 rfl ?_
        refine xt_istore (lo' := [_, _, _, _, _, _, _, _]) C dX6_bitsOf_15 (Nat.le_of_ble_eq_true rfl) rfl rfl ?_
        have in2 : ∀ (d2 x : Nat), x ≤ (xt_gw c sd t) →  (xt_gw c sd t) + 1 ≤ x + d2 → xt_X E cx (xt_ZM E cx 0 0 (xt_Eq (some (.int (xt_tB c r sd lv bo t (nI ly) v k))) S)) 0 0 17 [some (.ref (E.1 49)), some (.int (nI ly)), some (.int (xt_it (fun x s => s + xt_bits (xt_abs (xt_tC c r sd lv t v (8 * y + x))) (nI ly) (xt_tM c r sd lv t k (8 * y + x)) bo) x (xt_it (fun y s => xt_it (fun x s => s + xt_bits (xt_abs (xt_tC c r sd lv t v (8 * y + x))) (nI ly) (xt_tM c r sd lv t k (8 * y + x)) bo) (xt_gw c sd t) s) y 0))), some (.int (nI y)), some (.int (nI x)), none, none, none] [] S := by
          intro d2
          induction d2 with
          | zero => intro x  h0x  h1x; exact absurd h1x (by omega)
          | succ d2 ih2 =>
            intro x  h0x  h1x
            refine xt_iload C dX6_bitsOf_17 rfl ?_
            refine xt_aload_n C dX6_bitsOf_19 rfl ?_
            refine xt_get (f := 19) C xt_u6 rfl (by decide) (xt_cl49 _ _) (by decide) lkX6_38 rfl dX6_bitsOf_20 ?_
            refine xt_iconst (v := nI 0) C dX6_bitsOf_23 rfl ?_
            refine xt_ialdN C (by decide) (xt_cl57 _) (by decide) (by decide) (show S.2.1 57 0 = nI (xt_gw c sd t) from by rw [(m4 0 (by omega)).1, xt_lo_0]) dX6_bitsOf_24 ?_
            refine xt_icmp_geN (tgt := 103) C dX6_bitsOf_25 (by decide) (by omega) (by omega) (fun c25 => ?_) (fun c25 => ?_)
            · refine xt_iincN (z := 1) (lo' := [_, _, _, _, _, _, _, _]) C dX6_bitsOf_103 rfl rfl rfl ?_
              refine xt_goto (tgt := 4) C dX6_bitsOf_106 (by decide) ?_
              have hx9 : x = (xt_gw c sd t) := by omega
              subst hx9
              exact xt_fg (by repeat' constructor) (ih1 (y + 1) (by omega)  (by omega))
            · refine xt_aload_n C dX6_bitsOf_28 rfl ?_
              refine xt_iload C dX6_bitsOf_29 rfl ?_
              refine xt_iload_n C dX6_bitsOf_31 rfl ?_
              refine xt_cV C mv_X6_place lkX6_116 ct_mplace rfl (by decide) (xt_cl49 _ _) rfl (by decide) rfl (Nat.le_of_ble_eq_true rfl) dX6_bitsOf_32 ?_
              refine xt_istore (lo' := [_, _, _, _, _, _, _, _]) C dX6_bitsOf_35 (Nat.le_of_ble_eq_true rfl) rfl rfl ?_
              refine xt_aload_n C dX6_bitsOf_37 rfl ?_
              refine xt_get (f := 21) C xt_u6 rfl (by decide) (xt_cl49 _ _) (by decide) lkX6_44 rfl dX6_bitsOf_38 ?_
              refine xt_iload C dX6_bitsOf_41 rfl ?_
              refine xt_ialdN C (by decide) (xt_cl59 _) (by omega) (by decide) (hL.2 y x (by omega) (by omega)).1 dX6_bitsOf_43 ?_
              refine xt_mabs C lkX6_132 mw_abs rfl ⟨by decide, Nat.le_of_ble_eq_true rfl, by decide, by decide⟩ dX6_bitsOf_44 ?_
              rw [xt_ab]
              refine xt_istore (lo' := [_, _, _, _, _, _, _, _]) C dX6_bitsOf_47 (Nat.le_of_ble_eq_true rfl) rfl rfl ?_
              refine xt_iconst (v := nI 0) C dX6_bitsOf_49 rfl ?_
              refine xt_istore (lo' := [_, _, _, _, _, _, _, _]) C dX6_bitsOf_50 (Nat.le_of_ble_eq_true rfl) rfl rfl ?_
              have in3 : ∀ (d3 p : Nat), p ≤ 9 →  9 + 1 ≤ p + d3 → xt_X E cx (xt_ZM E cx 0 0 (xt_Eq (some (.int (xt_tB c r sd lv bo t (nI ly) v k))) S)) 0 0 52 [some (.ref (E.1 49)), some (.int (nI ly)), some (.int (xt_bq (xt_abs (xt_tC c r sd lv t v (8 * y + x))) ly (xt_tM c r sd lv t k (8 * y + x)) bo p (xt_it (fun x s => s + xt_bits (xt_abs (xt_tC c r sd lv t v (8 * y + x))) (nI ly) (xt_tM c r sd lv t k (8 * y + x)) bo) x (xt_it (fun y s => xt_it (fun x s => s + xt_bits (xt_abs (xt_tC c r sd lv t v (8 * y + x))) (nI ly) (xt_tM c r sd lv t k (8 * y + x)) bo) (xt_gw c sd t) s) y 0)))), some (.int (nI y)), some (.int (nI x)), some (.int (nI (8 * y + x))), some (.int (xt_abs (xt_tC c r sd lv t v (8 * y + x)))), some (.int (nI p))] [] S := by
                intro d3
                induction d3 with
                | zero => intro p  h0p  h1p; exact absurd h1p (by omega)
                | succ d3 ih3 =>
                  intro p  h0p  h1p
                  have hlay : xt_lay (xt_tM c r sd lv t k (8 * y + x)) bo p ≤ 8 := by unfold xt_lay; split <;> omega
                  refine xt_iload C dX6_bitsOf_52 rfl ?_
                  refine xt_bipush (v := nI 9) C dX6_bitsOf_54 (by decide) ?_
                  refine xt_icmp_geN (tgt := 97) C dX6_bitsOf_56 (by decide) (by omega) (by omega) (fun c56 => ?_) (fun c56 => ?_)
                  · refine xt_iincN (z := 1) (lo' := [_, _, _, _, _, _, _, _]) C dX6_bitsOf_97 rfl rfl rfl ?_
                    refine xt_goto (tgt := 17) C dX6_bitsOf_100 (by decide) ?_
                    have hp9 : p = 9 := by omega
                    subst hp9
                    rw [xt_bq_e hly]
                    exact xt_fg (by repeat' constructor) (ih2 (x + 1) (by omega) (by omega))
                  · refine xt_aload_n C dX6_bitsOf_59 rfl ?_
                    refine xt_iload C dX6_bitsOf_60 rfl ?_
                    refine xt_iload C dX6_bitsOf_62 rfl ?_
                    refine xt_cV C mv_X6_layer lkX6_129 (ct_mlayer (by omega) (hL.2 y x (by omega) (by omega)).2 xt_tM_le hb (by omega) (by omega)) rfl (by decide) (xt_cl49 _ _) rfl (by decide) rfl (Nat.le_of_ble_eq_true rfl) dX6_bitsOf_64 ?_
                    refine xt_iload_n C dX6_bitsOf_67 rfl ?_
                    refine xt_icmp_eqN (tgt := 74) C dX6_bitsOf_68 (by decide) (by omega) (by omega) (fun c68 => ?_) (fun c68 => ?_)
                    · refine xt_iload_n C dX6_bitsOf_74 rfl ?_
                      refine xt_iload C dX6_bitsOf_75 rfl ?_
                      refine xt_iload C dX6_bitsOf_77 rfl ?_
                      refine xt_ishr C dX6_bitsOf_79 ?_
                      refine xt_iconst (v := nI 1) C dX6_bitsOf_80 rfl ?_
                      refine xt_icmp_ne (tgt := 88) C dX6_bitsOf_81 (by decide) (fun c81 => ?_) (fun c81 => ?_)
                      · refine xt_iconst (v := nI 1) C dX6_bitsOf_88 rfl ?_
                        refine xt_iadd C dX6_bitsOf_89 ?_
                        refine xt_istore_n (lo' := [_, _, _, _, _, _, _, _]) C dX6_bitsOf_90 (Nat.le_of_ble_eq_true rfl) rfl rfl ?_
                        refine xt_iincN (z := 1) (lo' := [_, _, _, _, _, _, _, _]) C dX6_bitsOf_91 rfl rfl rfl ?_
                        refine xt_goto (tgt := 52) C dX6_bitsOf_94 (by decide) ?_
                        have h9 := ih3 (p + 1) (by omega) (by omega)
                        first
                        | rw [xt_bq0 c68] at h9
                        | rw [xt_bq1 c68 c81] at h9
                        | rw [xt_bq2 c68 c81] at h9
                        exact xt_fg (by repeat' constructor) h9
                      · refine xt_iconst (v := nI 2) C dX6_bitsOf_84 rfl ?_
                        refine xt_goto (tgt := 89) C dX6_bitsOf_85 (by decide) ?_
                        refine xt_iadd C dX6_bitsOf_89 ?_
                        refine xt_istore_n (lo' := [_, _, _, _, _, _, _, _]) C dX6_bitsOf_90 (Nat.le_of_ble_eq_true rfl) rfl rfl ?_
                        refine xt_iincN (z := 1) (lo' := [_, _, _, _, _, _, _, _]) C dX6_bitsOf_91 rfl rfl rfl ?_
                        refine xt_goto (tgt := 52) C dX6_bitsOf_94 (by decide) ?_
                        have h9 := ih3 (p + 1) (by omega) (by omega)
                        first
                        | rw [xt_bq0 c68] at h9
                        | rw [xt_bq1 c68 c81] at h9
                        | rw [xt_bq2 c68 c81] at h9
                        exact xt_fg (by repeat' constructor) h9
                    · refine xt_goto (tgt := 91) C dX6_bitsOf_71 (by decide) ?_
                      refine xt_iincN (z := 1) (lo' := [_, _, _, _, _, _, _, _]) C dX6_bitsOf_91 rfl rfl rfl ?_
                      refine xt_goto (tgt := 52) C dX6_bitsOf_94 (by decide) ?_
                      have h9 := ih3 (p + 1) (by omega) (by omega)
                      first
                      | rw [xt_bq0 c68] at h9
                      | rw [xt_bq1 c68 c81] at h9
                      | rw [xt_bq2 c68 c81] at h9
                      exact xt_fg (by repeat' constructor) h9
              exact xt_fg (by repeat' constructor) (in3 (9 + 1) 0 (by omega) (by omega))
        exact xt_fg (by repeat' constructor) (in2 ((xt_gw c sd t) + 1) 0 (by omega)  (by omega))
  refine xt_iconst (v := nI 0) C dX6_bitsOf_0 rfl ?_
  refine xt_istore_n (lo' := [_, _, _, _, _, _, _, _]) C dX6_bitsOf_1 (Nat.le_of_ble_eq_true rfl) rfl rfl ?_
  refine xt_iconst (v := nI 0) C dX6_bitsOf_2 rfl ?_
  refine xt_istore_n (lo' := [_, _, _, _, _, _, _, _]) C dX6_bitsOf_3 (Nat.le_of_ble_eq_true rfl) rfl rfl ?_
  exact xt_fg (by repeat' constructor) (out1 ((xt_gh c r sd t) + 1) 0 (by omega) (by omega))
theorem xt_tC_c {c r sd pl t : Nat} {v v' : Nat → Int32} (hc : 2 ≤ c ∧ c ≤ 16) (hr : 2 ≤ r ∧ r ≤ 16) (hs : sd = 2 ∨ sd = 4 ∨ sd = 8) (ht : t < xt_nt c r sd) (h : ∀ j, j < 256 → v j = v' j) : ∀ y x, y < xt_gh c r sd t → x < xt_gw c sd t → xt_tC c r sd pl t v (8 * y + x) = xt_tC c r sd pl t v' (8 * y + x) := by
  intro y x hy hx
  have hT := xt_tile_b hc hr hs ht
  have h3 := (xt_dep_le (lv := pl) (w := xt_gw c sd t) (h := xt_gh c r sd t)).2
  refine xt_co_ag (w := xt_gw c sd t) (h := xt_gh c r sd t) (by omega) (show xt_tD c r sd pl t ≤ 4 from Nat.le_succ_of_le h3) (fun p a b => ?_) (8 * y + x) (by omega) (by omega)
  exact h _ (xt_ix (c := c) (r := r) (by omega) (by omega) hc.2 hr.2).1
theorem xt_tM_c {c r sd pl t : Nat} {k k' : Nat → Int32} (hc : 2 ≤ c ∧ c ≤ 16) (hr : 2 ≤ r ∧ r ≤ 16) (hs : sd = 2 ∨ sd = 4 ∨ sd = 8) (ht : t < xt_nt c r sd) (h : ∀ j, j < 256 → k j = k' j) (p : Nat) : xt_tM c r sd pl t k p = xt_tM c r sd pl t k' p := by
  have hT := xt_tile_b hc hr hs ht
  unfold xt_tM xt_ms xt_mk
  congr 1
  apply propext
  constructor
  · rintro ⟨j, i, h1, h2, h3, h4, h5⟩
    exact ⟨j, i, h1, h2, h3, h4, by rw [← h _ (xt_ix (c := c) (r := r) (by omega) (by omega) hc.2 hr.2).1]; exact h5⟩
  · rintro ⟨j, i, h1, h2, h3, h4, h5⟩
    exact ⟨j, i, h1, h2, h3, h4, by rw [h _ (xt_ix (c := c) (r := r) (by omega) (by omega) hc.2 hr.2).1]; exact h5⟩
theorem xt_ML_c {c r sd pl t : Nat} {v v' k k' : Nat → Int32} (hc : 2 ≤ c ∧ c ≤ 16) (hr : 2 ≤ r ∧ r ≤ 16) (hs : sd = 2 ∨ sd = 4 ∨ sd = 8) (ht : t < xt_nt c r sd) (h1 : ∀ j, j < 256 → v j = v' j) (h2 : ∀ j, j < 256 → k j = k' j) (h : xt_ML S c r sd pl t v k) : xt_ML S c r sd pl t v' k' :=
  ⟨h.1, fun y x hy hx => ⟨(h.2 y x hy hx).1.trans (xt_tC_c hc hr hs ht h1 y x hy hx), (h.2 y x hy hx).2.trans (by rw [xt_tM_c hc hr hs ht h2])⟩⟩
set_option maxRecDepth 20000 in
set_option maxHeartbeats 2000000 in
theorem ct_worstWith {c r sd lv bo : Nat} (hM : xt_Mp S c r sd lv bo) {t : Nat} (ht : t < xt_nt c r sd) {v k : Nat → Int32} (hvv : ∀ j, j < 256 → xt_mV S j = v j) (hkk : ∀ j, j < 256 → xt_mK S j = k j) (hvr : ∀ j, j < 256 → ∃ m, m ≤ 255 ∧ v j = nI m) (hk : ∀ j, j < 256 → k j = nI 0 ∨ k j = nI 1) {n : Nat} (hn9 : n ≤ 9) : xt_Ct E l yX6_worstWith cX6_worstWith 3 (some Jvm.ClassFile.FieldType.int) 4 87 0 0 [.ref (E.1 49), .int (nI t), .int (nI n)] S (xt_Ep (some (.int (xt_tW c r sd lv bo t n v k))) (fun S9 => xt_mfr S S9)) := by
  refine xt_body (by decide +kernel) (xt_all rfl) (Nat.le_of_ble_eq_true rfl) (fun cx C hl9 => ?_)
  show xt_X E cx _ 0 0 0 [some (.ref (E.1 49)), some (.int (nI t)), some (.int (nI n))] [] S
  have hM9 := hM
  obtain ⟨hc, hr, hs, hv, hb, b1, b2, b3, b4, b5, b6, b7⟩ := hM
  have hn := xt_nt_b ⟨b1, b2⟩ ⟨b3, b4⟩ b5
  have hT := xt_tile_b ⟨b1, b2⟩ ⟨b3, b4⟩ b5 ht
  have hdl : (xt_tD c r sd lv t) ≤ 3 := xt_dep_le.2
  refine xt_aload_n C dX6_worstWith_0 rfl ?_
  refine xt_iload_n C dX6_worstWith_1 rfl ?_
  refine xt_cVpn C mv_X6_looks lkX6_169 (ct_looks (by exact hM9) ht (fun j hj => by rw [hkk j hj]; exact hk j hj)) rfl (by decide) (xt_cl49 _ _) rfl (by decide) rfl (Nat.le_of_ble_eq_true rfl) dX6_worstWith_2 (fun S9 hq9 => ?_)
  obtain ⟨hfr, hL0⟩ := hq9
  have hL := xt_ML_c ⟨b1, b2⟩ ⟨b3, b4⟩ b5 ht hvv hkk hL0
  rename xt_St => T1
  refine xt_aload_n C dX6_worstWith_5 rfl ?_
  refine xt_iload_n C dX6_worstWith_6 rfl ?_
  refine xt_cVpn C mv_X6_decodes lkX6_181 (ct_decodes (by exact xt_mfr_Mp hfr hM9) ht hL (xt_tA ⟨b1, b2⟩ ⟨b3, b4⟩ b5 ht hvr) hn9) rfl (by decide) (xt_cl49 _ _) rfl (by decide) rfl (Nat.le_of_ble_eq_true rfl) dX6_worstWith_7 (fun S9 hq9 => ?_)
  obtain ⟨hfr2, hL2, hJ⟩ := hq9
  have hfr3 := xt_mfr_tr hfr hfr2
  refine xt_aload_n C dX6_worstWith_10 rfl ?_
  refine xt_cV C mv_X6_worstOf lkX6_217 (ct_worstOf (by exact xt_mfr_Mp hfr3 hM9) ht hL2 (by rw [(xt_mfr_v hfr3).1]; exact hvv) hJ) rfl (by decide) (xt_cl49 _ _) rfl (by decide) rfl (Nat.le_of_ble_eq_true rfl) dX6_worstWith_11 ?_
  exact xt_iret C dX6_worstWith_14 ⟨by decide, by decide⟩ ⟨rfl, hfr3⟩
end XM7
