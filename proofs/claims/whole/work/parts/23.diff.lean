/-! THE TILE: DIFFERENCES, BOUNDS, WHAT IS STORED -/
section XC16
variable {E : xt_Ev} {l : Launch} {S : xt_St}
def xt_mx2 (g : Nat → Nat → Int32) (w h : Nat) : Int32 := xt_it (fun y s => xt_it (fun x s => if s < g x y then g x y else s) w s) h 0
def xt_DJ (co : Nat → Int32) (mm : Nat → Nat) (w h dp bo n : Nat) : Nat → Int32 := fun p => xt_cl (xt_jn 0 w h dp (fun p => xt_dv (co p) (xt_mis (mm p) bo n)) p)
def xt_put2 (c lf tp w h : Nat) (J : Nat → Int32) (f : Nat → Int32) : Nat → Int32 := xt_it (fun y f => xt_it (fun x f => upd f ((tp + y) * c + (lf + x)) (J (8 * y + x))) w f) h f
set_option maxRecDepth 20000 in
set_option maxHeartbeats 2000000 in
theorem ct_diff {p : Nat} (hp : p < 64) {a b : Int32} (h1 : S.2.1 40 p = a) (h2 : S.2.1 34 p = b) : xt_Ct E l yX4_differenceAt cX4_differenceAt 2 (some Jvm.ClassFile.FieldType.int) 1 21 0 0 [.ref (E.1 33), .int (nI p)] S (xt_Eq (some (.int (xt_abs (a - b)))) S) := by
  refine xt_body (by decide +kernel) (xt_all rfl) (Nat.le_of_ble_eq_true rfl) (fun cx C hl9 => ?_)
  show xt_X E cx _ 0 0 0 [some (.ref (E.1 33)), some (.int (nI p))] [] S
  refine xt_aload_n C dX4_differenceAt_0 rfl ?_
  refine xt_get (f := 12) C xt_u4 rfl (by decide) (xt_cl33 _ _) (by decide) lkX4_30 rfl dX4_differenceAt_1 ?_
  refine xt_iload_n C dX4_differenceAt_4 rfl ?_
  refine xt_cSN C ms_X5_at lkX4_84 (ct_at (by decide) (xt_cl40 _) (by decide) hp h1) rfl (by decide) rfl (Nat.le_of_ble_eq_true rfl) dX4_differenceAt_5 ?_
  refine xt_aload_n C dX4_differenceAt_8 rfl ?_
  refine xt_get (f := 6) C xt_u4 rfl (by decide) (xt_cl33 _ _) (by decide) lkX4_9 rfl dX4_differenceAt_9 ?_
  refine xt_iload_n C dX4_differenceAt_12 rfl ?_
  refine xt_cSN C ms_X5_at lkX4_84 (ct_at (by decide) (xt_cl34 _) (by decide) hp h2) rfl (by decide) rfl (Nat.le_of_ble_eq_true rfl) dX4_differenceAt_13 ?_
  refine xt_isub C dX4_differenceAt_16 ?_
  refine xt_cSN C ms_X5_amountOf lkX4_145 ct_amount rfl (by decide) rfl (Nat.le_of_ble_eq_true rfl) dX4_differenceAt_17 ?_
  exact xt_iret C dX4_differenceAt_20 ⟨by decide, by decide⟩ ⟨rfl, rfl⟩
set_option maxRecDepth 20000 in
set_option maxHeartbeats 2000000 in
theorem ct_greatest {lf tp w h dp bo : Nat} (hT : xt_Tn S lf tp w h dp bo) {mm : Nat → Nat} (hmm : ∀ y x, y < h → x < w → S.2.1 38 (8 * y + x) = nI (mm (8 * y + x)) ∧ mm (8 * y + x) ≤ 1) {n : Nat} (hn : n ≤ 9) : xt_Ct E l yX4_greatestDifference cX4_greatestDifference 5 (some Jvm.ClassFile.FieldType.int) 5 128 0 0 [.ref (E.1 33), .int (nI n)] S (xt_Ep (some (.int (xt_mx2 (fun x y => xt_abs ((xt_DJ (S.2.1 35) mm w h dp bo n) (8 * y + x) - S.2.1 34 (8 * y + x))) w h))) (fun S9 => ∃ g9 f9, S9 = (xt_sA (xt_sA S 41 g9) 40 f9))) := by
  refine xt_body (by decide +kernel) (xt_all rfl) (Nat.le_of_ble_eq_true rfl) (fun cx C hl9 => ?_)
  show xt_X E cx _ 0 0 0 [some (.ref (E.1 33)), some (.int (nI n)), none, none, none] [] S
  have hT9 := hT
  obtain ⟨t0, t1, t2, t3, t4, t5, g1, g2, g3, g4, g5, g6⟩ := hT
  refine xt_aload_n C dX4_greatestDifference_0 rfl ?_
  refine xt_iload_n C dX4_greatestDifference_1 rfl ?_
  refine xt_cVpn C mv_X4_decode lkX4_169 (ct_decode (by exact hT9) hmm hn) rfl (by decide) (xt_cl33 _ _) rfl (by decide) rfl (Nat.le_of_ble_eq_true rfl) dX4_greatestDifference_2 (fun S9 hq9 => ?_)
  obtain ⟨g9, f9, rfl, hf9⟩ := hq9
  have out1 : ∀ (d1 y : Nat), y ≤ h →  h + 1 ≤ y + d1 → xt_X E cx (xt_ZM E cx 0 0 (xt_Ep (some (.int (xt_mx2 (fun x y => xt_abs ((xt_DJ (S.2.1 35) mm w h dp bo n) (8 * y + x) - S.2.1 34 (8 * y + x))) w h))) (fun S9 => ∃ g9 f9, S9 = (xt_sA (xt_sA S 41 g9) 40 f9)))) 0 0 9 [some (.ref (E.1 33)), some (.int (nI n)), some (.int (xt_it (fun y s => xt_it (fun x s => if s < xt_abs ((xt_DJ (S.2.1 35) mm w h dp bo n) (8 * y + x) - S.2.1 34 (8 * y + x)) then xt_abs ((xt_DJ (S.2.1 35) mm w h dp bo n) (8 * y + x) - S.2.1 34 (8 * y + x)) else s) w s) y 0)), some (.int (nI y)), none] [] (xt_sA (xt_sA S 41 g9) 40 f9) := by
    intro d1
    induction d1 with
    | zero => intro y  h0y  h1y; exact absurd h1y (by omega)
    | succ d1 ih1 =>
      intro y  h0y  h1y
      refine xt_iload_n C dX4_greatestDifference_9 rfl ?_
      refine xt_aload_n C dX4_greatestDifference_10 rfl ?_
      refine xt_get (f := 3) C xt_u4 rfl (by decide) (xt_cl33 _ _) (by decide) lkX4_61 (xt_vI t3) dX4_greatestDifference_11 ?_
      refine xt_icmp_geN (tgt := 56) C dX4_greatestDifference_14 (by decide) (by omega) (by omega) (fun c14 => ?_) (fun c14 => ?_)
      · refine xt_iload_n C dX4_greatestDifference_56 rfl ?_
        exact xt_iret C dX4_greatestDifference_57 ⟨by decide, by decide⟩ ⟨by rw [show y = h by omega]; rfl, g9, f9, rfl⟩
      · refine xt_iconst (v := nI 0) C dX4_greatestDifference_17 rfl ?_
        refine xt_istore (lo' := [_, _, _, _, _]) C dX4_greatestDifference_18 (Nat.le_of_ble_eq_true rfl) rfl rfl ?_
        have in2 : ∀ (d2 x : Nat), x ≤ w →  w + 1 ≤ x + d2 → xt_X E cx (xt_ZM E cx 0 0 (xt_Ep (some (.int (xt_mx2 (fun x y => xt_abs ((xt_DJ (S.2.1 35) mm w h dp bo n) (8 * y + x) - S.2.1 34 (8 * y + x))) w h))) (fun S9 => ∃ g9 f9, S9 = (xt_sA (xt_sA S 41 g9) 40 f9)))) 0 0 20 [some (.ref (E.1 33)), some (.int (nI n)), some (.int (xt_it (fun x s => if s < xt_abs ((xt_DJ (S.2.1 35) mm w h dp bo n) (8 * y + x) - S.2.1 34 (8 * y + x)) then xt_abs ((xt_DJ (S.2.1 35) mm w h dp bo n) (8 * y + x) - S.2.1 34 (8 * y + x)) else s) x (xt_it (fun y s => xt_it (fun x s => if s < xt_abs ((xt_DJ (S.2.1 35) mm w h dp bo n) (8 * y + x) - S.2.1 34 (8 * y + x)) then xt_abs ((xt_DJ (S.2.1 35) mm w h dp bo n) (8 * y + x) - S.2.1 34 (8 * y + x)) else s) w s) y 0))), some (.int (nI y)), some (.int (nI x))] [] (xt_sA (xt_sA S 41 g9) 40 f9) := by
          intro d2
          induction d2 with
          | zero => intro x  h0x  h1x; exact absurd h1x (by omega)
          | succ d2 ih2 =>
            intro x  h0x  h1x
            refine xt_iload C dX4_greatestDifference_20 rfl ?_
            refine xt_aload_n C dX4_greatestDifference_22 rfl ?_
            refine xt_get (f := 2) C xt_u4 rfl (by decide) (xt_cl33 _ _) (by decide) lkX4_55 (xt_vI t2) dX4_greatestDifference_23 ?_
            refine xt_icmp_geN (tgt := 50) C dX4_greatestDifference_26 (by decide) (by omega) (by omega) (fun c26 => ?_) (fun c26 => ?_)
            · refine xt_iincN (z := 1) (lo' := [_, _, _, _, _]) C dX4_greatestDifference_50 rfl rfl rfl ?_
              refine xt_goto (tgt := 9) C dX4_greatestDifference_53 (by decide) ?_
              have hx9 : x = w := by omega
              subst hx9
              exact xt_fg (by repeat' constructor) (ih1 (y + 1) (by omega)  (by omega))
            · refine xt_iload_n C dX4_greatestDifference_29 rfl ?_
              refine xt_aload_n C dX4_greatestDifference_30 rfl ?_
              refine xt_iload C dX4_greatestDifference_31 rfl ?_
              refine xt_iload_n C dX4_greatestDifference_33 rfl ?_
              refine xt_cSN C ms_X5_placeOf lkX4_88 ct_place rfl (by decide) rfl (Nat.le_of_ble_eq_true rfl) dX4_greatestDifference_34 ?_
              refine xt_cV C mv_X4_differenceAt lkX4_172 (ct_diff (by omega) (a := (xt_DJ (S.2.1 35) mm w h dp bo n) (8 * y + x)) (b := S.2.1 34 (8 * y + x)) (by rw [xt_sA_s]; exact hf9 _ (show xt_in w h (8 * y + x) from ⟨by omega, by omega⟩)) rfl) rfl (by decide) (xt_cl33 _ _) rfl (by decide) rfl (Nat.le_of_ble_eq_true rfl) dX4_greatestDifference_37 ?_
              refine xt_mmax C lkX4_136 mw_max rfl ⟨by decide, Nat.le_of_ble_eq_true rfl, by decide, by decide⟩ dX4_greatestDifference_40 ?_
              refine xt_istore_n (lo' := [_, _, _, _, _]) C dX4_greatestDifference_43 (Nat.le_of_ble_eq_true rfl) rfl rfl ?_
              refine xt_iincN (z := 1) (lo' := [_, _, _, _, _]) C dX4_greatestDifference_44 rfl rfl rfl ?_
              refine xt_goto (tgt := 20) C dX4_greatestDifference_47 (by decide) ?_
              have h9 := ih2 (x + 1) (by omega)  (by omega)
              exact xt_fg (by repeat' constructor) h9
        exact xt_fg (by repeat' constructor) (in2 (w + 1) 0 (by omega)  (by omega))
  refine xt_iconst (v := nI 0) C dX4_greatestDifference_5 rfl ?_
  refine xt_istore_n (lo' := [_, _, _, _, _]) C dX4_greatestDifference_6 (Nat.le_of_ble_eq_true rfl) rfl rfl ?_
  refine xt_iconst (v := nI 0) C dX4_greatestDifference_7 rfl ?_
  refine xt_istore_n (lo' := [_, _, _, _, _]) C dX4_greatestDifference_8 (Nat.le_of_ble_eq_true rfl) rfl rfl ?_
  exact xt_fg (by repeat' constructor) (out1 (h + 1) 0 (by omega) (by omega))
set_option maxRecDepth 20000 in
set_option maxHeartbeats 2000000 in
theorem ct_squares {lf tp w h dp bo : Nat} (hT : xt_Tn S lf tp w h dp bo) {mm : Nat → Nat} (hmm : ∀ y x, y < h → x < w → S.2.1 38 (8 * y + x) = nI (mm (8 * y + x)) ∧ mm (8 * y + x) ≤ 1) {n : Nat} (hn : n ≤ 9) : xt_Ct E l yX4_sumOfSquares cX4_sumOfSquares 6 (some Jvm.ClassFile.FieldType.int) 5 128 0 0 [.ref (E.1 33), .int (nI n)] S (xt_Ep (some (.int (xt_S2 (fun x y => xt_abs ((xt_DJ (S.2.1 35) mm w h dp bo n) (8 * y + x) - S.2.1 34 (8 * y + x)) * xt_abs ((xt_DJ (S.2.1 35) mm w h dp bo n) (8 * y + x) - S.2.1 34 (8 * y + x))) w h))) (fun S9 => ∃ g9 f9, S9 = (xt_sA (xt_sA S 41 g9) 40 f9))) := by
  refine xt_body (by decide +kernel) (xt_all rfl) (Nat.le_of_ble_eq_true rfl) (fun cx C hl9 => ?_)
  show xt_X E cx _ 0 0 0 [some (.ref (E.1 33)), some (.int (nI n)), none, none, none, none] [] S
  have hT9 := hT
  obtain ⟨t0, t1, t2, t3, t4, t5, g1, g2, g3, g4, g5, g6⟩ := hT
  refine xt_aload_n C dX4_sumOfSquares_0 rfl ?_
  refine xt_iload_n C dX4_sumOfSquares_1 rfl ?_
  refine xt_cVpn C mv_X4_decode lkX4_169 (ct_decode (by exact hT9) hmm hn) rfl (by decide) (xt_cl33 _ _) rfl (by decide) rfl (Nat.le_of_ble_eq_true rfl) dX4_sumOfSquares_2 (fun S9 hq9 => ?_)
  obtain ⟨g9, f9, rfl, hf9⟩ := hq9
  have out1 : ∀ (d1 y : Nat), y ≤ h →  h + 1 ≤ y + d1 → xt_X E cx (xt_ZM E cx 0 0 (xt_Ep (some (.int (xt_S2 (fun x y => xt_abs ((xt_DJ (S.2.1 35) mm w h dp bo n) (8 * y + x) - S.2.1 34 (8 * y + x)) * xt_abs ((xt_DJ (S.2.1 35) mm w h dp bo n) (8 * y + x) - S.2.1 34 (8 * y + x))) w h))) (fun S9 => ∃ g9 f9, S9 = (xt_sA (xt_sA S 41 g9) 40 f9)))) 0 0 9 [some (.ref (E.1 33)), some (.int (nI n)), some (.int (xt_it (fun y s => xt_it (fun x s => s + xt_abs ((xt_DJ (S.2.1 35) mm w h dp bo n) (8 * y + x) - S.2.1 34 (8 * y + x)) * xt_abs ((xt_DJ (S.2.1 35) mm w h dp bo n) (8 * y + x) - S.2.1 34 (8 * y + x))) w s) y 0)), some (.int (nI y)), none, none] [] (xt_sA (xt_sA S 41 g9) 40 f9) := by
    intro d1
    induction d1 with
    | zero => intro y  h0y  h1y; exact absurd h1y (by omega)
    | succ d1 ih1 =>
      intro y  h0y  h1y
      refine xt_iload_n C dX4_sumOfSquares_9 rfl ?_
      refine xt_aload_n C dX4_sumOfSquares_10 rfl ?_
      refine xt_get (f := 3) C xt_u4 rfl (by decide) (xt_cl33 _ _) (by decide) lkX4_61 (xt_vI t3) dX4_sumOfSquares_11 ?_
      refine xt_icmp_geN (tgt := 61) C dX4_sumOfSquares_14 (by decide) (by omega) (by omega) (fun c14 => ?_) (fun c14 => ?_)
      · refine xt_iload_n C dX4_sumOfSquares_61 rfl ?_
        exact xt_iret C dX4_sumOfSquares_62 ⟨by decide, by decide⟩ ⟨by rw [show y = h by omega]; rfl, g9, f9, rfl⟩
      · refine xt_iconst (v := nI 0) C dX4_sumOfSquares_17 rfl ?_
        refine xt_istore (lo' := [_, _, _, _, _, _]) C dX4_sumOfSquares_18 (Nat.le_of_ble_eq_true rfl) rfl rfl ?_
        have in2 : ∀ (d2 x : Nat), x ≤ w →  w + 1 ≤ x + d2 → xt_X E cx (xt_ZM E cx 0 0 (xt_Ep (some (.int (xt_S2 (fun x y => xt_abs ((xt_DJ (S.2.1 35) mm w h dp bo n) (8 * y + x) - S.2.1 34 (8 * y + x)) * xt_abs ((xt_DJ (S.2.1 35) mm w h dp bo n) (8 * y + x) - S.2.1 34 (8 * y + x))) w h))) (fun S9 => ∃ g9 f9, S9 = (xt_sA (xt_sA S 41 g9) 40 f9)))) 0 0 20 [some (.ref (E.1 33)), some (.int (nI n)), some (.int (xt_it (fun x s => s + xt_abs ((xt_DJ (S.2.1 35) mm w h dp bo n) (8 * y + x) - S.2.1 34 (8 * y + x)) * xt_abs ((xt_DJ (S.2.1 35) mm w h dp bo n) (8 * y + x) - S.2.1 34 (8 * y + x))) x (xt_it (fun y s => xt_it (fun x s => s + xt_abs ((xt_DJ (S.2.1 35) mm w h dp bo n) (8 * y + x) - S.2.1 34 (8 * y + x)) * xt_abs ((xt_DJ (S.2.1 35) mm w h dp bo n) (8 * y + x) - S.2.1 34 (8 * y + x))) w s) y 0))), some (.int (nI y)), some (.int (nI x)), none] [] (xt_sA (xt_sA S 41 g9) 40 f9) := by
          intro d2
          induction d2 with
          | zero => intro x  h0x  h1x; exact absurd h1x (by omega)
          | succ d2 ih2 =>
            intro x  h0x  h1x
            refine xt_iload C dX4_sumOfSquares_20 rfl ?_
            refine xt_aload_n C dX4_sumOfSquares_22 rfl ?_
            refine xt_get (f := 2) C xt_u4 rfl (by decide) (xt_cl33 _ _) (by decide) lkX4_55 (xt_vI t2) dX4_sumOfSquares_23 ?_
            refine xt_icmp_geN (tgt := 55) C dX4_sumOfSquares_26 (by decide) (by omega) (by omega) (fun c26 => ?_) (fun c26 => ?_)
            · refine xt_iincN (z := 1) (lo' := [_, _, _, _, _, _]) C dX4_sumOfSquares_55 rfl rfl rfl ?_
              refine xt_goto (tgt := 9) C dX4_sumOfSquares_58 (by decide) ?_
              have hx9 : x = w := by omega
              subst hx9
              exact xt_fg (by repeat' constructor) (ih1 (y + 1) (by omega)  (by omega))
            · refine xt_aload_n C dX4_sumOfSquares_29 rfl ?_
              refine xt_iload C dX4_sumOfSquares_30 rfl ?_
              refine xt_iload_n C dX4_sumOfSquares_32 rfl ?_
              refine xt_cSN C ms_X5_placeOf lkX4_88 ct_place rfl (by decide) rfl (Nat.le_of_ble_eq_true rfl) dX4_sumOfSquares_33 ?_
              refine xt_cV C mv_X4_differenceAt lkX4_172 (ct_diff (by omega) (a := (xt_DJ (S.2.1 35) mm w h dp bo n) (8 * y + x)) (b := S.2.1 34 (8 * y + x)) (by rw [xt_sA_s]; exact hf9 _ (show xt_in w h (8 * y + x) from ⟨by omega, by omega⟩)) rfl) rfl (by decide) (xt_cl33 _ _) rfl (by decide) rfl (Nat.le_of_ble_eq_true rfl) dX4_sumOfSquares_36 ?_
              refine xt_istore (lo' := [_, _, _, _, _, _]) C dX4_sumOfSquares_39 (Nat.le_of_ble_eq_true rfl) rfl rfl ?_
              refine xt_iload_n C dX4_sumOfSquares_41 rfl ?_
              refine xt_iload C dX4_sumOfSquares_42 rfl ?_
              refine xt_iload C dX4_sumOfSquares_44 rfl ?_
              refine xt_imul C dX4_sumOfSquares_46 ?_
              refine xt_iadd C dX4_sumOfSquares_47 ?_
              refine xt_istore_n (lo' := [_, _, _, _, _, _]) C dX4_sumOfSquares_48 (Nat.le_of_ble_eq_true rfl) rfl rfl ?_
              refine xt_iincN (z := 1) (lo' := [_, _, _, _, _, _]) C dX4_sumOfSquares_49 rfl rfl rfl ?_
              refine xt_goto (tgt := 20) C dX4_sumOfSquares_52 (by decide) ?_
              have h9 := ih2 (x + 1) (by omega)  (by omega)
              exact xt_fg (by repeat' constructor) h9
        exact xt_fg (by repeat' constructor) (in2 (w + 1) 0 (by omega)  (by omega))
  refine xt_iconst (v := nI 0) C dX4_sumOfSquares_5 rfl ?_
  refine xt_istore_n (lo' := [_, _, _, _, _, _]) C dX4_sumOfSquares_6 (Nat.le_of_ble_eq_true rfl) rfl rfl ?_
  refine xt_iconst (v := nI 0) C dX4_sumOfSquares_7 rfl ?_
  refine xt_istore_n (lo' := [_, _, _, _, _, _]) C dX4_sumOfSquares_8 (Nat.le_of_ble_eq_true rfl) rfl rfl ?_
  exact xt_fg (by repeat' constructor) (out1 (h + 1) 0 (by omega) (by omega))
set_option maxRecDepth 20000 in
set_option maxHeartbeats 2000000 in
theorem ct_doubt {lf tp w h dp bo : Nat} (hT : xt_Tn S lf tp w h dp bo) {mm : Nat → Nat} (hmm : ∀ y x, y < h → x < w → S.2.1 38 (8 * y + x) = nI (mm (8 * y + x)) ∧ mm (8 * y + x) ≤ 1) {n : Nat} (hn : n ≤ 9) : xt_Ct E l yX4_greatestDoubt cX4_greatestDoubt 5 (some Jvm.ClassFile.FieldType.int) 4 101 0 0 [.ref (E.1 33), .int (nI n)] S (xt_Ep (some (.int (if xt_mx2 (fun x y => (xt_jn 1 w h dp (fun p => nI (1 * 2 ^ xt_mis (mm p) bo n - 1)) (8 * y + x))) w h < nI 255 then xt_mx2 (fun x y => (xt_jn 1 w h dp (fun p => nI (1 * 2 ^ xt_mis (mm p) bo n - 1)) (8 * y + x))) w h else nI 255))) (fun S9 => ∃ g9 f9, S9 = (xt_sA (xt_sA S 41 g9) 40 f9))) := by
  refine xt_body (by decide +kernel) (xt_all rfl) (Nat.le_of_ble_eq_true rfl) (fun cx C hl9 => ?_)
  show xt_X E cx _ 0 0 0 [some (.ref (E.1 33)), some (.int (nI n)), none, none, none] [] S
  have hT9 := hT
  obtain ⟨t0, t1, t2, t3, t4, t5, g1, g2, g3, g4, g5, g6⟩ := hT
  have fin : ∀ (g9 f9 : Nat → Int32), (∀ p, xt_in w h p → f9 p = xt_jn 1 w h dp (fun p => nI (1 * 2 ^ xt_mis (mm p) bo n - 1)) p) → xt_X E cx (xt_ZM E cx 0 0 (xt_Ep (some (.int (if xt_mx2 (fun x y => (xt_jn 1 w h dp (fun p => nI (1 * 2 ^ xt_mis (mm p) bo n - 1)) (8 * y + x))) w h < nI 255 then xt_mx2 (fun x y => (xt_jn 1 w h dp (fun p => nI (1 * 2 ^ xt_mis (mm p) bo n - 1)) (8 * y + x))) w h else nI 255))) (fun S9 => ∃ g9 f9, S9 = (xt_sA (xt_sA S 41 g9) 40 f9)))) 0 0 64 [some (.ref (E.1 33)), some (.int (nI n)), none, none, none] [] (xt_sA (xt_sA S 41 g9) 40 f9) := by
    intro g9 f9 hf9
    have out2 : ∀ (d1 y : Nat), y ≤ h →  h + 1 ≤ y + d1 → xt_X E cx (xt_ZM E cx 0 0 (xt_Ep (some (.int (if xt_mx2 (fun x y => (xt_jn 1 w h dp (fun p => nI (1 * 2 ^ xt_mis (mm p) bo n - 1)) (8 * y + x))) w h < nI 255 then xt_mx2 (fun x y => (xt_jn 1 w h dp (fun p => nI (1 * 2 ^ xt_mis (mm p) bo n - 1)) (8 * y + x))) w h else nI 255))) (fun S9 => ∃ g9 f9, S9 = (xt_sA (xt_sA S 41 g9) 40 f9)))) 0 0 68 [some (.ref (E.1 33)), some (.int (nI n)), some (.int (xt_it (fun y s => xt_it (fun x s => if s < (xt_jn 1 w h dp (fun p => nI (1 * 2 ^ xt_mis (mm p) bo n - 1)) (8 * y + x)) then (xt_jn 1 w h dp (fun p => nI (1 * 2 ^ xt_mis (mm p) bo n - 1)) (8 * y + x)) else s) w s) y 0)), some (.int (nI y)), none] [] (xt_sA (xt_sA S 41 g9) 40 f9) := by
      intro d1
      induction d1 with
      | zero => intro y  h0y  h1y; exact absurd h1y (by omega)
      | succ d1 ih1 =>
        intro y  h0y  h1y
        refine xt_iload_n C dX4_greatestDoubt_68 rfl ?_
        refine xt_aload_n C dX4_greatestDoubt_69 rfl ?_
        refine xt_get (f := 3) C xt_u4 rfl (by decide) (xt_cl33 _ _) (by decide) lkX4_61 (xt_vI t3) dX4_greatestDoubt_70 ?_
        refine xt_icmp_geN (tgt := 118) C dX4_greatestDoubt_73 (by decide) (by omega) (by omega) (fun c73 => ?_) (fun c73 => ?_)
        · refine xt_sipush (v := nI 255) C dX4_greatestDoubt_118 (by decide) ?_
          refine xt_iload_n C dX4_greatestDoubt_121 rfl ?_
          refine xt_mmin C lkX4_114 mw_min rfl ⟨by decide, Nat.le_of_ble_eq_true rfl, by decide, by decide⟩ dX4_greatestDoubt_122 ?_
          exact xt_iret C dX4_greatestDoubt_125 ⟨by decide, by decide⟩ ⟨by rw [show y = h by omega]; rfl, g9, f9, rfl⟩
        · refine xt_iconst (v := nI 0) C dX4_greatestDoubt_76 rfl ?_
          refine xt_istore (lo' := [_, _, _, _, _]) C dX4_greatestDoubt_77 (Nat.le_of_ble_eq_true rfl) rfl rfl ?_
          have in2 : ∀ (d2 x : Nat), x ≤ w →  w + 1 ≤ x + d2 → xt_X E cx (xt_ZM E cx 0 0 (xt_Ep (some (.int (if xt_mx2 (fun x y => (xt_jn 1 w h dp (fun p => nI (1 * 2 ^ xt_mis (mm p) bo n - 1)) (8 * y + x))) w h < nI 255 then xt_mx2 (fun x y => (xt_jn 1 w h dp (fun p => nI (1 * 2 ^ xt_mis (mm p) bo n - 1)) (8 * y + x))) w h else nI 255))) (fun S9 => ∃ g9 f9, S9 = (xt_sA (xt_sA S 41 g9) 40 f9)))) 0 0 79 [some (.ref (E.1 33)), some (.int (nI n)), some (.int (xt_it (fun x s => if s < (xt_jn 1 w h dp (fun p => nI (1 * 2 ^ xt_mis (mm p) bo n - 1)) (8 * y + x)) then (xt_jn 1 w h dp (fun p => nI (1 * 2 ^ xt_mis (mm p) bo n - 1)) (8 * y + x)) else s) x (xt_it (fun y s => xt_it (fun x s => if s < (xt_jn 1 w h dp (fun p => nI (1 * 2 ^ xt_mis (mm p) bo n - 1)) (8 * y + x)) then (xt_jn 1 w h dp (fun p => nI (1 * 2 ^ xt_mis (mm p) bo n - 1)) (8 * y + x)) else s) w s) y 0))), some (.int (nI y)), some (.int (nI x))] [] (xt_sA (xt_sA S 41 g9) 40 f9) := by
            intro d2
            induction d2 with
            | zero => intro x  h0x  h1x; exact absurd h1x (by omega)
            | succ d2 ih2 =>
              intro x  h0x  h1x
              refine xt_iload C dX4_greatestDoubt_79 rfl ?_
              refine xt_aload_n C dX4_greatestDoubt_81 rfl ?_
              refine xt_get (f := 2) C xt_u4 rfl (by decide) (xt_cl33 _ _) (by decide) lkX4_55 (xt_vI t2) dX4_greatestDoubt_82 ?_
              refine xt_icmp_geN (tgt := 112) C dX4_greatestDoubt_85 (by decide) (by omega) (by omega) (fun c85 => ?_) (fun c85 => ?_)
              · refine xt_iincN (z := 1) (lo' := [_, _, _, _, _]) C dX4_greatestDoubt_112 rfl rfl rfl ?_
                refine xt_goto (tgt := 68) C dX4_greatestDoubt_115 (by decide) ?_
                have hx9 : x = w := by omega
                subst hx9
                exact xt_fg (by repeat' constructor) (ih1 (y + 1) (by omega)  (by omega))
              · refine xt_iload_n C dX4_greatestDoubt_88 rfl ?_
                refine xt_aload_n C dX4_greatestDoubt_89 rfl ?_
                refine xt_get (f := 12) C xt_u4 rfl (by decide) (xt_cl33 _ _) (by decide) lkX4_30 rfl dX4_greatestDoubt_90 ?_
                refine xt_iload C dX4_greatestDoubt_93 rfl ?_
                refine xt_iload_n C dX4_greatestDoubt_95 rfl ?_
                refine xt_cSN C ms_X5_placeOf lkX4_88 ct_place rfl (by decide) rfl (Nat.le_of_ble_eq_true rfl) dX4_greatestDoubt_96 ?_
                refine xt_cSN C ms_X5_at lkX4_84 (ct_at (by decide) (xt_cl40 _) (by decide) (by omega) (v := (xt_jn 1 w h dp (fun p => nI (1 * 2 ^ xt_mis (mm p) bo n - 1)) (8 * y + x))) (by rw [xt_sA_s]; exact hf9 _ (show xt_in w h (8 * y + x) from ⟨by omega, by omega⟩))) rfl (by decide) rfl (Nat.le_of_ble_eq_true rfl) dX4_greatestDoubt_99 ?_
                refine xt_mmax C lkX4_136 mw_max rfl ⟨by decide, Nat.le_of_ble_eq_true rfl, by decide, by decide⟩ dX4_greatestDoubt_102 ?_
                refine xt_istore_n (lo' := [_, _, _, _, _]) C dX4_greatestDoubt_105 (Nat.le_of_ble_eq_true rfl) rfl rfl ?_
                refine xt_iincN (z := 1) (lo' := [_, _, _, _, _]) C dX4_greatestDoubt_106 rfl rfl rfl ?_
                refine xt_goto (tgt := 79) C dX4_greatestDoubt_109 (by decide) ?_
                have h9 := ih2 (x + 1) (by omega)  (by omega)
                exact xt_fg (by repeat' constructor) h9
          exact xt_fg (by repeat' constructor) (in2 (w + 1) 0 (by omega)  (by omega))
    refine xt_iconst (v := nI 0) C dX4_greatestDoubt_64 rfl ?_
    refine xt_istore_n (lo' := [_, _, _, _, _]) C dX4_greatestDoubt_65 (Nat.le_of_ble_eq_true rfl) rfl rfl ?_
    refine xt_iconst (v := nI 0) C dX4_greatestDoubt_66 rfl ?_
    refine xt_istore_n (lo' := [_, _, _, _, _]) C dX4_greatestDoubt_67 (Nat.le_of_ble_eq_true rfl) rfl rfl ?_
    exact xt_fg (by repeat' constructor) (out2 (h + 1) 0 (by omega) (by omega))
  have out1 : ∀ (d1 y : Nat) (g : Nat → Int32), y ≤ h → (∀ y9 x9, y9 < h → x9 < w → (y9 < y ∨ (y9 = y ∧ x9 < 0)) → g (8 * y9 + x9) = nI (1 * 2 ^ xt_mis (mm (8 * y9 + x9)) bo n - 1)) → h + 1 ≤ y + d1 → xt_X E cx (xt_ZM E cx 0 0 (xt_Ep (some (.int (if xt_mx2 (fun x y => (xt_jn 1 w h dp (fun p => nI (1 * 2 ^ xt_mis (mm p) bo n - 1)) (8 * y + x))) w h < nI 255 then xt_mx2 (fun x y => (xt_jn 1 w h dp (fun p => nI (1 * 2 ^ xt_mis (mm p) bo n - 1)) (8 * y + x))) w h else nI 255))) (fun S9 => ∃ g9 f9, S9 = (xt_sA (xt_sA S 41 g9) 40 f9)))) 0 0 2 [some (.ref (E.1 33)), some (.int (nI n)), some (.int (nI y)), none, none] [] (xt_sA S 40 g) := by
    intro d1
    induction d1 with
    | zero => intro y g h0y hg h1y; exact absurd h1y (by omega)
    | succ d1 ih1 =>
      intro y g h0y hg h1y
      refine xt_iload_n C dX4_greatestDoubt_2 rfl ?_
      refine xt_aload_n C dX4_greatestDoubt_3 rfl ?_
      refine xt_get (f := 3) C xt_u4 rfl (by decide) (xt_cl33 _ _) (by decide) lkX4_61 (xt_vI t3) dX4_greatestDoubt_4 ?_
      refine xt_icmp_geN (tgt := 59) C dX4_greatestDoubt_7 (by decide) (by omega) (by omega) (fun c7 => ?_) (fun c7 => ?_)
      · refine xt_aload_n C dX4_greatestDoubt_59 rfl ?_
        refine xt_iconst (v := nI 1) C dX4_greatestDoubt_60 rfl ?_
        refine xt_cVpn C mv_X4_joinLevels lkX4_165 (ct_joinLevels (by exact hT9) (by decide)) rfl (by decide) (xt_cl33 _ _) rfl (by decide) rfl (Nat.le_of_ble_eq_true rfl) dX4_greatestDoubt_61 (fun S9 hq9 => ?_)
        obtain ⟨g9, rfl⟩ := hq9
        rw [show (xt_sA S 40 g).2.1 40 = g from rfl, xt_sA_cm (i := 40) (j := 41) (by decide), xt_sA_sA]
        exact xt_fg (by repeat' constructor) (fin g9 _ (fun p hp => xt_jn_ag g1 (by omega) (fun p h1 h2 => by rw [show p = 8 * (p / 8) + p % 8 by omega]; exact hg _ _ h2 h1 (by omega)) p hp.1 hp.2))
      · refine xt_iconst (v := nI 0) C dX4_greatestDoubt_10 rfl ?_
        refine xt_istore_n (lo' := [_, _, _, _, _]) C dX4_greatestDoubt_11 (Nat.le_of_ble_eq_true rfl) rfl rfl ?_
        have in2 : ∀ (d2 x : Nat) (g : Nat → Int32), x ≤ w → (∀ y9 x9, y9 < h → x9 < w → (y9 < y ∨ (y9 = y ∧ x9 < x)) → g (8 * y9 + x9) = nI (1 * 2 ^ xt_mis (mm (8 * y9 + x9)) bo n - 1)) → w + 1 ≤ x + d2 → xt_X E cx (xt_ZM E cx 0 0 (xt_Ep (some (.int (if xt_mx2 (fun x y => (xt_jn 1 w h dp (fun p => nI (1 * 2 ^ xt_mis (mm p) bo n - 1)) (8 * y + x))) w h < nI 255 then xt_mx2 (fun x y => (xt_jn 1 w h dp (fun p => nI (1 * 2 ^ xt_mis (mm p) bo n - 1)) (8 * y + x))) w h else nI 255))) (fun S9 => ∃ g9 f9, S9 = (xt_sA (xt_sA S 41 g9) 40 f9)))) 0 0 12 [some (.ref (E.1 33)), some (.int (nI n)), some (.int (nI y)), some (.int (nI x)), none] [] (xt_sA S 40 g) := by
          intro d2
          induction d2 with
          | zero => intro x g h0x hg h1x; exact absurd h1x (by omega)
          | succ d2 ih2 =>
            intro x g h0x hg h1x
            refine xt_iload_n C dX4_greatestDoubt_12 rfl ?_
            refine xt_aload_n C dX4_greatestDoubt_13 rfl ?_
            refine xt_get (f := 2) C xt_u4 rfl (by decide) (xt_cl33 _ _) (by decide) lkX4_55 (xt_vI t2) dX4_greatestDoubt_14 ?_
            refine xt_icmp_geN (tgt := 53) C dX4_greatestDoubt_17 (by decide) (by omega) (by omega) (fun c17 => ?_) (fun c17 => ?_)
            · refine xt_iincN (z := 1) (lo' := [_, _, _, _, _]) C dX4_greatestDoubt_53 rfl rfl rfl ?_
              refine xt_goto (tgt := 2) C dX4_greatestDoubt_56 (by decide) ?_
              exact xt_fg (by repeat' constructor) (ih1 (y + 1) g (by omega) (fun y9 x9 z1 z2 z3 => hg y9 x9 z1 z2 (by omega)) (by omega))
            · have mle := xt_mis_le (m := mm (8 * y + x)) (bo := bo) (n := n)
              have mpw := Nat.pow_le_pow_right (n := 2) (by decide) mle
              have mpz : 1 ≤ 2 ^ xt_mis (mm (8 * y + x)) bo n := Nat.one_le_two_pow
              refine xt_iload_n C dX4_greatestDoubt_20 rfl ?_
              refine xt_iload_n C dX4_greatestDoubt_21 rfl ?_
              refine xt_cSN C ms_X5_placeOf lkX4_88 ct_place rfl (by decide) rfl (Nat.le_of_ble_eq_true rfl) dX4_greatestDoubt_22 ?_
              refine xt_istore (lo' := [_, _, _, _, _]) C dX4_greatestDoubt_25 (Nat.le_of_ble_eq_true rfl) rfl rfl ?_
              refine xt_aload_n C dX4_greatestDoubt_27 rfl ?_
              refine xt_get (f := 12) C xt_u4 rfl (by decide) (xt_cl33 _ _) (by decide) lkX4_30 rfl dX4_greatestDoubt_28 ?_
              refine xt_iload C dX4_greatestDoubt_31 rfl ?_
              refine xt_iconst (v := nI 1) C dX4_greatestDoubt_33 rfl ?_
              refine xt_aload_n C dX4_greatestDoubt_34 rfl ?_
              refine xt_iload C dX4_greatestDoubt_35 rfl ?_
              refine xt_iload_n C dX4_greatestDoubt_37 rfl ?_
              refine xt_cV C mv_X4_missingPlanes lkX4_162 (ct_missing (m := mm (8 * y + x)) (by exact hT9) (by omega) (by exact (hmm y x (by omega) (by omega)).1) (hmm y x (by omega) (by omega)).2 hn) rfl (by decide) (xt_cl33 _ _) rfl (by decide) rfl (Nat.le_of_ble_eq_true rfl) dX4_greatestDoubt_38 ?_
              refine xt_ishlN C dX4_greatestDoubt_41 (by omega) (by omega) ?_
              refine xt_iconst (v := nI 1) C dX4_greatestDoubt_42 rfl ?_
              refine xt_isubN C dX4_greatestDoubt_43 (by omega) ?_
              refine xt_cSNn C ms_X5_put lkX4_91 (ct_put (by decide) (xt_cl40 _) (by decide) (by omega)) rfl (by decide) rfl (Nat.le_of_ble_eq_true rfl) dX4_greatestDoubt_44 ?_
              refine xt_iincN (z := 1) (lo' := [_, _, _, _, _]) C dX4_greatestDoubt_47 rfl rfl rfl ?_
              refine xt_goto (tgt := 12) C dX4_greatestDoubt_50 (by decide) ?_
              simp only [xt_sA_s, xt_sA_sA]
              exact xt_fg (by repeat' constructor) (ih2 (x + 1) _ (by omega) (fun y9 x9 z1 z2 z3 => by
                by_cases z : y9 = y ∧ x9 = x
                · obtain ⟨rfl, rfl⟩ := z
                  exact xt_up_s
                · rw [xt_up_n (by omega)]; exact hg y9 x9 z1 z2 (by omega)) (by omega))
        exact xt_fg (by repeat' constructor) (in2 (w + 1) 0 g (by omega) (fun y9 x9 z1 z2 z3 => hg y9 x9 z1 z2 (by omega)) (by omega))
  refine xt_iconst (v := nI 0) C dX4_greatestDoubt_0 rfl ?_
  refine xt_istore_n (lo' := [_, _, _, _, _]) C dX4_greatestDoubt_1 (Nat.le_of_ble_eq_true rfl) rfl rfl ?_
  have h9 := out1 (h + 1) 0 (S.2.1 40) (by omega) (fun y9 x9 z1 z2 z3 => by omega) (by omega)
  rw [xt_sA_self] at h9
  exact xt_fg (by repeat' constructor) h9
set_option maxRecDepth 20000 in
set_option maxHeartbeats 2000000 in
theorem ct_store {lf tp w h dp bo : Nat} (hT : xt_Tn S lf tp w h dp bo) {c r sd pl pb : Nat} (hP : xt_Pic S 1 c r sd pl pb) (hlw : lf + w ≤ c) (hth : tp + h ≤ r) {J : Nat → Int32} (hJ : ∀ p, xt_in w h p → S.2.1 40 p = J p) : xt_Ct E l yX4_storeDecoded cX4_storeDecoded 6 (some Jvm.ClassFile.FieldType.int) 2 42 0 0 [.ref (E.1 33), .ref (E.1 1)] S (xt_Eq (some (.int (xt_N2 (fun x y => (¬ xt_abs (J (8 * y + x) - S.2.1 34 (8 * y + x)) = 0)) w h))) (xt_sA S 2 (xt_put2 c lf tp w h J (S.2.1 2)))) := by
  refine xt_body (by decide +kernel) (xt_all rfl) (Nat.le_of_ble_eq_true rfl) (fun cx C hl9 => ?_)
  show xt_X E cx _ 0 0 0 [some (.ref (E.1 33)), some (.ref (E.1 1)), none, none, none, none] [] S
  have hT9 := hT
  obtain ⟨t0, t1, t2, t3, t4, t5, g1, g2, g3, g4, g5, g6⟩ := hT
  have hP9 := hP
  obtain ⟨hc, hr, hs, hv, hb, b1, b2, b3, b4, b5, b6, b7⟩ := hP
  have out1 : ∀ (d1 y : Nat), y ≤ h →  h + 1 ≤ y + d1 → xt_X E cx (xt_ZM E cx 0 0 (xt_Eq (some (.int (xt_N2 (fun x y => (¬ xt_abs (J (8 * y + x) - S.2.1 34 (8 * y + x)) = 0)) w h))) (xt_sA S 2 (xt_put2 c lf tp w h J (S.2.1 2))))) 0 0 4 [some (.ref (E.1 33)), some (.ref (E.1 1)), some (.int (xt_it (fun y s => xt_it (fun x s => xt_ci (¬ xt_abs (J (8 * y + x) - S.2.1 34 (8 * y + x)) = 0) s) w s) y 0)), some (.int (nI y)), none, none] [] (xt_sA S 2 (xt_it (fun y f => xt_it (fun x f => upd f ((tp + y) * c + (lf + x)) (J (8 * y + x))) w f) y (S.2.1 2))) := by
    intro d1
    induction d1 with
    | zero => intro y  h0y  h1y; exact absurd h1y (by omega)
    | succ d1 ih1 =>
      intro y  h0y  h1y
      refine xt_iload_n C dX4_storeDecoded_4 rfl ?_
      refine xt_aload_n C dX4_storeDecoded_5 rfl ?_
      refine xt_get (f := 3) C xt_u4 rfl (by decide) (xt_cl33 _ _) (by decide) lkX4_61 (xt_vI t3) dX4_storeDecoded_6 ?_
      refine xt_icmp_geN (tgt := 89) C dX4_storeDecoded_9 (by decide) (by omega) (by omega) (fun c9 => ?_) (fun c9 => ?_)
      · refine xt_iload_n C dX4_storeDecoded_89 rfl ?_
        exact xt_iret C dX4_storeDecoded_90 ⟨by decide, by decide⟩ (by have hy9 : y = h := (by omega);  rw [hy9]; exact ⟨rfl, rfl⟩)
      · refine xt_iconst (v := nI 0) C dX4_storeDecoded_12 rfl ?_
        refine xt_istore (lo' := [_, _, _, _, _, _]) C dX4_storeDecoded_13 (Nat.le_of_ble_eq_true rfl) rfl rfl ?_
        have in2 : ∀ (d2 x : Nat), x ≤ w →  w + 1 ≤ x + d2 → xt_X E cx (xt_ZM E cx 0 0 (xt_Eq (some (.int (xt_N2 (fun x y => (¬ xt_abs (J (8 * y + x) - S.2.1 34 (8 * y + x)) = 0)) w h))) (xt_sA S 2 (xt_put2 c lf tp w h J (S.2.1 2))))) 0 0 15 [some (.ref (E.1 33)), some (.ref (E.1 1)), some (.int (xt_it (fun x s => xt_ci (¬ xt_abs (J (8 * y + x) - S.2.1 34 (8 * y + x)) = 0) s) x (xt_it (fun y s => xt_it (fun x s => xt_ci (¬ xt_abs (J (8 * y + x) - S.2.1 34 (8 * y + x)) = 0) s) w s) y 0))), some (.int (nI y)), some (.int (nI x)), none] [] (xt_sA S 2 (xt_it (fun x f => upd f ((tp + y) * c + (lf + x)) (J (8 * y + x))) x (xt_it (fun y f => xt_it (fun x f => upd f ((tp + y) * c + (lf + x)) (J (8 * y + x))) w f) y (S.2.1 2)))) := by
          intro d2
          induction d2 with
          | zero => intro x  h0x  h1x; exact absurd h1x (by omega)
          | succ d2 ih2 =>
            intro x  h0x  h1x
            refine xt_iload C dX4_storeDecoded_15 rfl ?_
            refine xt_aload_n C dX4_storeDecoded_17 rfl ?_
            refine xt_get (f := 2) C xt_u4 rfl (by decide) (xt_cl33 _ _) (by decide) lkX4_55 (xt_vI t2) dX4_storeDecoded_18 ?_
            refine xt_icmp_geN (tgt := 83) C dX4_storeDecoded_21 (by decide) (by omega) (by omega) (fun c21 => ?_) (fun c21 => ?_)
            · refine xt_iincN (z := 1) (lo' := [_, _, _, _, _, _]) C dX4_storeDecoded_83 rfl rfl rfl ?_
              refine xt_goto (tgt := 4) C dX4_storeDecoded_86 (by decide) ?_
              have hx9 : x = w := by omega
              subst hx9
              exact xt_fg (by repeat' constructor) (ih1 (y + 1) (by omega) (by omega))
            · refine xt_iload C dX4_storeDecoded_24 rfl ?_
              refine xt_iload_n C dX4_storeDecoded_26 rfl ?_
              refine xt_cSN C ms_X5_placeOf lkX4_88 ct_place rfl (by decide) rfl (Nat.le_of_ble_eq_true rfl) dX4_storeDecoded_27 ?_
              refine xt_istore (lo' := [_, _, _, _, _, _]) C dX4_storeDecoded_30 (Nat.le_of_ble_eq_true rfl) rfl rfl ?_
              refine xt_aload_n C dX4_storeDecoded_32 rfl ?_
              refine xt_iload C dX4_storeDecoded_33 rfl ?_
              refine xt_cV C mv_X4_differenceAt lkX4_172 (ct_diff (by omega) (a := J (8 * y + x)) (b := S.2.1 34 (8 * y + x)) (hJ _ (show xt_in w h (8 * y + x) from ⟨by omega, by omega⟩)) rfl) rfl (by decide) (xt_cl33 _ _) rfl (by decide) rfl (Nat.le_of_ble_eq_true rfl) dX4_storeDecoded_35 ?_
              refine xt_if_eq (tgt := 44) C dX4_storeDecoded_38 (by decide) (fun c38 => ?_) (fun c38 => ?_)
              · have hn9 : ¬ (¬ xt_abs (J (8 * y + x) - S.2.1 34 (8 * y + x)) = 0) := fun z => z c38
                refine xt_aload_n C dX4_storeDecoded_44 rfl ?_
                refine xt_getN (f := 5) C xt_u1 rfl (by decide) (xt_cl1 _ _) (by decide) lkX4_78 rfl dX4_storeDecoded_45 ?_
                refine xt_aload_n C dX4_storeDecoded_48 rfl ?_
                refine xt_aload_n C dX4_storeDecoded_49 rfl ?_
                refine xt_get (f := 0) C xt_u4 rfl (by decide) (xt_cl33 _ _) (by decide) lkX4_42 (xt_vI t0) dX4_storeDecoded_50 ?_
                refine xt_iload C dX4_storeDecoded_53 rfl ?_
                refine xt_iaddN C dX4_storeDecoded_55 ?_
                refine xt_aload_n C dX4_storeDecoded_56 rfl ?_
                refine xt_get (f := 1) C xt_u4 rfl (by decide) (xt_cl33 _ _) (by decide) lkX4_49 (xt_vI t1) dX4_storeDecoded_57 ?_
                refine xt_iload_n C dX4_storeDecoded_60 rfl ?_
                refine xt_iaddN C dX4_storeDecoded_61 ?_
                refine xt_cVN C mv_X1_indexOf lkX4_81 (ct_indexOf (by exact hP9)) rfl (by decide) (xt_cl1 _ _) rfl (by decide) rfl (Nat.le_of_ble_eq_true rfl) dX4_storeDecoded_62 ?_
                refine xt_aload_n C dX4_storeDecoded_65 rfl ?_
                refine xt_get (f := 12) C xt_u4 rfl (by decide) (xt_cl33 _ _) (by decide) lkX4_30 rfl dX4_storeDecoded_66 ?_
                refine xt_iload C dX4_storeDecoded_69 rfl ?_
                refine xt_cSN C ms_X5_at lkX4_84 (ct_at (by decide) (xt_cl40 _) (by decide) (by omega) (v := J (8 * y + x)) (hJ _ (show xt_in w h (8 * y + x) from ⟨by omega, by omega⟩))) rfl (by decide) rfl (Nat.le_of_ble_eq_true rfl) dX4_storeDecoded_71 ?_
                refine xt_cSNn C ms_X5_put lkX4_91 (ct_put (by decide) (xt_cl2 _) (by decide) (xt_ix (c := c) (r := r) (by omega) (by omega) b2 b4).1) rfl (by decide) rfl (Nat.le_of_ble_eq_true rfl) dX4_storeDecoded_74 ?_
                refine xt_iincN (z := 1) (lo' := [_, _, _, _, _, _]) C dX4_storeDecoded_77 rfl rfl rfl ?_
                refine xt_goto (tgt := 15) C dX4_storeDecoded_80 (by decide) ?_
                rw [xt_sA_s, xt_sA_sA]
                have h9 := ih2 (x + 1) (by omega) (by omega)
                rw [show (xt_it (fun x s => xt_ci (¬ xt_abs (J (8 * y + x) - S.2.1 34 (8 * y + x)) = 0) s) (x + 1) (xt_it (fun y s => xt_it (fun x s => xt_ci (¬ xt_abs (J (8 * y + x) - S.2.1 34 (8 * y + x)) = 0) s) w s) y 0)) = xt_ci (¬ xt_abs (J (8 * y + x) - S.2.1 34 (8 * y + x)) = 0) (xt_it (fun x s => xt_ci (¬ xt_abs (J (8 * y + x) - S.2.1 34 (8 * y + x)) = 0) s) x (xt_it (fun y s => xt_it (fun x s => xt_ci (¬ xt_abs (J (8 * y + x) - S.2.1 34 (8 * y + x)) = 0) s) w s) y 0)) from rfl] at h9
                first
                | rw [xt_ci0 hn9] at h9
                | rw [xt_ci1 c38] at h9
                exact xt_fg (by repeat' constructor) h9
              · refine xt_iinc (lo' := [_, _, _, _, _, _]) C dX4_storeDecoded_41 rfl rfl rfl rfl ?_
                refine xt_aload_n C dX4_storeDecoded_44 rfl ?_
                refine xt_getN (f := 5) C xt_u1 rfl (by decide) (xt_cl1 _ _) (by decide) lkX4_78 rfl dX4_storeDecoded_45 ?_
                refine xt_aload_n C dX4_storeDecoded_48 rfl ?_
                refine xt_aload_n C dX4_storeDecoded_49 rfl ?_
                refine xt_get (f := 0) C xt_u4 rfl (by decide) (xt_cl33 _ _) (by decide) lkX4_42 (xt_vI t0) dX4_storeDecoded_50 ?_
                refine xt_iload C dX4_storeDecoded_53 rfl ?_
                refine xt_iaddN C dX4_storeDecoded_55 ?_
                refine xt_aload_n C dX4_storeDecoded_56 rfl ?_
                refine xt_get (f := 1) C xt_u4 rfl (by decide) (xt_cl33 _ _) (by decide) lkX4_49 (xt_vI t1) dX4_storeDecoded_57 ?_
                refine xt_iload_n C dX4_storeDecoded_60 rfl ?_
                refine xt_iaddN C dX4_storeDecoded_61 ?_
                refine xt_cVN C mv_X1_indexOf lkX4_81 (ct_indexOf (by exact hP9)) rfl (by decide) (xt_cl1 _ _) rfl (by decide) rfl (Nat.le_of_ble_eq_true rfl) dX4_storeDecoded_62 ?_
                refine xt_aload_n C dX4_storeDecoded_65 rfl ?_
                refine xt_get (f := 12) C xt_u4 rfl (by decide) (xt_cl33 _ _) (by decide) lkX4_30 rfl dX4_storeDecoded_66 ?_
                refine xt_iload C dX4_storeDecoded_69 rfl ?_
                refine xt_cSN C ms_X5_at lkX4_84 (ct_at (by decide) (xt_cl40 _) (by decide) (by omega) (v := J (8 * y + x)) (hJ _ (show xt_in w h (8 * y + x) from ⟨by omega, by omega⟩))) rfl (by decide) rfl (Nat.le_of_ble_eq_true rfl) dX4_storeDecoded_71 ?_
                refine xt_cSNn C ms_X5_put lkX4_91 (ct_put (by decide) (xt_cl2 _) (by decide) (xt_ix (c := c) (r := r) (by omega) (by omega) b2 b4).1) rfl (by decide) rfl (Nat.le_of_ble_eq_true rfl) dX4_storeDecoded_74 ?_
                refine xt_iincN (z := 1) (lo' := [_, _, _, _, _, _]) C dX4_storeDecoded_77 rfl rfl rfl ?_
                refine xt_goto (tgt := 15) C dX4_storeDecoded_80 (by decide) ?_
                rw [xt_sA_s, xt_sA_sA]
                have h9 := ih2 (x + 1) (by omega) (by omega)
                rw [show (xt_it (fun x s => xt_ci (¬ xt_abs (J (8 * y + x) - S.2.1 34 (8 * y + x)) = 0) s) (x + 1) (xt_it (fun y s => xt_it (fun x s => xt_ci (¬ xt_abs (J (8 * y + x) - S.2.1 34 (8 * y + x)) = 0) s) w s) y 0)) = xt_ci (¬ xt_abs (J (8 * y + x) - S.2.1 34 (8 * y + x)) = 0) (xt_it (fun x s => xt_ci (¬ xt_abs (J (8 * y + x) - S.2.1 34 (8 * y + x)) = 0) s) x (xt_it (fun y s => xt_it (fun x s => xt_ci (¬ xt_abs (J (8 * y + x) - S.2.1 34 (8 * y + x)) = 0) s) w s) y 0)) from rfl] at h9
                first
                | rw [xt_ci0 hn9] at h9
                | rw [xt_ci1 c38] at h9
                exact xt_fg (by repeat' constructor) h9
        exact xt_fg (by repeat' constructor) (in2 (w + 1) 0 (by omega) (by omega))
  refine xt_iconst (v := nI 0) C dX4_storeDecoded_0 rfl ?_
  refine xt_istore_n (lo' := [_, _, _, _, _, _]) C dX4_storeDecoded_1 (Nat.le_of_ble_eq_true rfl) rfl rfl ?_
  refine xt_iconst (v := nI 0) C dX4_storeDecoded_2 rfl ?_
  refine xt_istore_n (lo' := [_, _, _, _, _, _]) C dX4_storeDecoded_3 (Nat.le_of_ble_eq_true rfl) rfl rfl ?_
  have h9 := out1 (h + 1) 0 (by omega) (by omega)
  rw [show (xt_it (fun y f => xt_it (fun x f => upd f ((tp + y) * c + (lf + x)) (J (8 * y + x))) w f) 0 (S.2.1 2)) = S.2.1 2 from rfl, xt_sA_self] at h9
  exact xt_fg (by repeat' constructor) h9
end XC16
