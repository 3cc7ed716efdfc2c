section XN2
variable {E : xt_Ev} {l : Launch}
set_option maxRecDepth 20000 in
set_option maxHeartbeats 2000000 in
theorem cw_lays {w : va_W} {a b : Nat} {fs : List Value} {f : Nat → Int32} {c2 r2 : Nat} (j i : Nat) (hj : w[j]? = some (a, .inr (6, fs))) (hf1 : fs[1]? = some (.ref b)) (hi : w[i]? = some (b, .inl (E.2.2.2.1 0, 517, .inl f))) : xt_Cw E l yX6_lays cX6_lays 4 none 0 0 0 0 [.ref a, .int (nI c2), .int (nI r2)] w (fun v w9 => v = none ∧ w9 = w.set i (b, .inl (E.2.2.2.1 0, 517, .inl (xt_ly f c2 r2 512)))) := by
  have hij : i ≠ j := fun e => by rw [e, hj] at hi; cases hi
  have hil : i < w.length := (List.getElem?_eq_some_iff.mp hi).1
  have gj : ∀ y, (w.set i y)[j]? = some (a, .inr (6, fs)) := fun y => by rw [List.getElem?_set_ne hij]; exact hj
  have gi : ∀ y, (w.set i y)[i]? = some y := fun y => by rw [List.getElem?_set_self hil]
  have gs : ∀ y z, (w.set i y).set i z = w.set i z := fun y z => by rw [List.set_set]
  refine xt_bodyW (by decide +kernel) (xt_all rfl) (Nat.le_of_ble_eq_true rfl) (fun cx C hl9 hn9 => ?_)
  show xt_Yw E cx _ 0 0 0 [some (.ref a), some (.int (nI c2)), some (.int (nI r2)), none] [] w
  refine yv_aload_n C dX6_lays_0 rfl ?_
  refine yv_get (f := 1) C xt_u6 rfl j hj (by decide) lkX6_9 hf1 dX6_lays_1 ?_
  refine yv_iconst (v := nI 0) C dX6_lays_4 rfl ?_
  refine yv_iload_n C dX6_lays_5 rfl ?_
  refine yv_iast C i hi (vp_in_nI (by decide) (by decide)) rfl dX6_lays_6 ?_
  refine yv_aload_n C dX6_lays_7 rfl ?_
  refine yv_get (f := 1) C xt_u6 rfl j (gj _) (by decide) lkX6_9 hf1 dX6_lays_8 ?_
  refine yv_iconst (v := nI 1) C dX6_lays_11 rfl ?_
  refine yv_iload_n C dX6_lays_12 rfl ?_
  refine yv_iast C i (gi _) (vp_in_nI (by decide) (by decide)) (gs _ _) dX6_lays_13 ?_
  refine yv_iconst (v := nI 0) C dX6_lays_14 rfl ?_
  refine yv_istore_n C dX6_lays_15 (Nat.le_of_ble_eq_true rfl) rfl rfl ?_
  have hly0 : upd (upd f (nI 0).toNatClampNeg (nI c2)) (nI 1).toNatClampNeg (nI r2) = xt_ly f c2 r2 0 := by
    rw [nI_clamp (by decide), nI_clamp (by decide)]
    funext z
    unfold upd xt_ly
    by_cases e1 : z = 1
    · subst e1; simp
    · by_cases e0 : z = 0
      · subst e0; simp
      · have e5 : ¬ (5 ≤ z ∧ z < 5 + 0) := by omega
        simp [e0, e1]
        omega
  rw [hly0]
  have loop : ∀ d m, d + m = 512 → xt_Yw E cx (xt_ZW E cx 0 0 (fun v w9 => v = none ∧ w9 = w.set i (b, .inl (E.2.2.2.1 0, 517, .inl (xt_ly f c2 r2 512))))) 0 0 16 [some (.ref a), some (.int (nI c2)), some (.int (nI r2)), some (.int (nI m))] [] (w.set i (b, .inl (E.2.2.2.1 0, 517, .inl (xt_ly f c2 r2 m)))) := by
    intro d
    induction d with
    | zero =>
      intro m hm
      have : m = 512 := by omega
      subst this
      refine yv_iload_n C dX6_lays_16 rfl ?_
      refine yv_sipush (v := nI 512) C dX6_lays_17 (by decide) ?_
      refine yv_icmp_ge (tgt := 38) C dX6_lays_20 (by decide) (fun c9 => ?_) (fun c9 => ?_)
      · exact yv_vret C dX6_lays_38 ⟨Nat.le_refl _, Nat.le_refl _⟩ ⟨rfl, rfl⟩
      · exact absurd (by decide) c9
    | succ d ih =>
      intro m hm
      refine yv_iload_n C dX6_lays_16 rfl ?_
      refine yv_sipush (v := nI 512) C dX6_lays_17 (by decide) ?_
      refine yv_icmp_ge (tgt := 38) C dX6_lays_20 (by decide) (fun c9 => ?_) (fun c9 => ?_)
      · exact absurd ((nI_leI (by decide) (by omega)).mp c9) (by omega)
      · refine yv_aload_n C dX6_lays_23 rfl ?_
        refine yv_get (f := 1) C xt_u6 rfl j (gj _) (by decide) lkX6_9 hf1 dX6_lays_24 ?_
        refine yv_iconst (v := nI 5) C dX6_lays_27 rfl ?_
        refine yv_iload_n C dX6_lays_28 rfl ?_
        refine yv_iadd C dX6_lays_29 (nI_add 5 m) ?_
        refine yv_iconst (v := nI 0) C dX6_lays_30 rfl ?_
        refine yv_iast C i (gi _) (vp_in_nI (by omega) (by decide)) (gs _ _) dX6_lays_31 ?_
        refine yv_iinc (v := nI (m + 1)) C dX6_lays_32 rfl (nI_add m 1) rfl rfl ?_
        refine yv_goto (tgt := 16) C dX6_lays_35 (by decide) ?_
        have hs : upd (xt_ly f c2 r2 m) (nI (5 + m)).toNatClampNeg (nI 0) = xt_ly f c2 r2 (m + 1) := by
          rw [nI_clamp (by omega)]
          funext z
          unfold upd xt_ly
          by_cases e1 : z = 5 + m
          · subst e1
            have a0 : ¬ 5 + m = 0 := by omega
            have a1 : ¬ 5 + m = 1 := by omega
            have a2 : 5 ≤ 5 + m ∧ 5 + m < 5 + (m + 1) := by omega
            rw [if_pos rfl, if_neg a0, if_neg a1, if_pos a2]
          · rw [if_neg e1]
            by_cases a0 : z = 0
            · rw [if_pos a0, if_pos a0]
            · rw [if_neg a0, if_neg a0]
              by_cases a1 : z = 1
              · rw [if_pos a1, if_pos a1]
              · rw [if_neg a1, if_neg a1]
                by_cases a2 : 5 ≤ z ∧ z < 5 + m
                · rw [if_pos a2, if_pos ⟨a2.1, by omega⟩]
                · rw [if_neg a2, if_neg (fun h => a2 ⟨h.1, by omega⟩)]
        rw [hs]
        exact ih (m + 1) (by omega)
  exact loop 512 0 (by decide)
set_option maxRecDepth 20000 in
set_option maxHeartbeats 4000000 in
theorem cn_X6 (w0 : va_W) (a : Nat) : xt_Cw E l yX6_init cX6_init 1 none 1 23 17 6169 [.ref a] (w0 ++ (a, .inr (6, [.int 0, .null, .null, .int 0, .null, .int 0, .null, .null, .int 0, .int 0, .int 0, .int 0, .int 0, .int 0, .null, .null, .int 0, .int 0, .int 0, .null, .null, .null, .null, .null, .null, .null, .null, .null, .null])) :: []) (fun v w9 => v = none ∧ ∃ q : Nat → Nat, w9 = w0 ++ (a, .inr (6, [.int 0, .ref (q 50), .ref (q 51), .int 0, .ref (q 52), .int 0, .ref (q 53), .ref (q 54), .int 0, .int 0, .int (-1), .int 0, .int 0, .int (-1), .ref (q 55), .ref (q 56), .int 0, .int 0, .int 0, .ref (q 57), .ref (q 58), .ref (q 59), .ref (q 60), .ref (q 61), .ref (q 62), .ref (q 63), .ref (q 64), .ref (q 65), .ref (q 66)])) :: [(q 50, .inl (E.2.2.2.1 0, 517, .inl (upd (upd (xt_ly (fun _ => 0) 8 8 512) 2 (nI 4)) 3 (nI 2)))), (q 51, .inl (E.2.2.2.1 0, 4136, .inl (fun _ => 0))), (q 52, .inl (E.2.2.2.1 0, 517, .inl (fun _ => 0))), (q 53, .inl (E.2.2.2.1 0, 517, .inl (fun _ => 0))), (q 54, .inl (E.2.2.2.1 0, 60, .inl (fun _ => 0))), (q 55, .inl (E.2.2.2.1 0, 64, .inl (fun _ => 0))), (q 56, .inl (E.2.2.2.1 0, 64, .inl (fun _ => 0))), (q 57, .inl (E.2.2.2.1 0, 5, .inl (fun _ => 0))), (q 58, .inl (E.2.2.2.1 0, 5, .inl (fun _ => 0))), (q 59, .inl (E.2.2.2.1 0, 64, .inl (fun _ => 0))), (q 60, .inl (E.2.2.2.1 4, 64, .inl (fun _ => 0))), (q 61, .inl (E.2.2.2.1 0, 64, .inl (fun _ => 0))), (q 62, .inl (E.2.2.2.1 0, 8, .inl (fun _ => 0))), (q 63, .inl (E.2.2.2.1 4, 8, .inl (fun _ => 0))), (q 64, .inl (E.2.2.2.1 1, 64, .inr (.inl (fun _ => 0)))), (q 65, .inl (E.2.2.2.1 1, 8, .inr (.inl (fun _ => 0)))), (q 66, .inl (E.2.2.2.1 0, 4, .inl (fun _ => 0)))]) := by
  refine xt_bodyW (by decide +kernel) (xt_all rfl) (Nat.le_of_ble_eq_true rfl) (fun cx C hl9 hn9 => ?_)
  show xt_Yw E cx _ 0 0 0 [some (.ref a)] [] (w0 ++ (a, .inr (6, [.int 0, .null, .null, .int 0, .null, .int 0, .null, .null, .int 0, .int 0, .int 0, .int 0, .int 0, .int 0, .null, .null, .int 0, .int 0, .int 0, .null, .null, .null, .null, .null, .null, .null, .null, .null, .null])) :: [])
  refine yv_aload_n C dX6_init_0 rfl ?_
  refine yv_obj C lkX6_3 oi_i oi_c rfl ⟨Nat.le_of_ble_eq_true rfl, Nat.le_of_ble_eq_true rfl⟩ dX6_init_1 ?_
  refine yv_aload_n C dX6_init_4 rfl ?_
  refine yv_sipush (v := nI 517) C dX6_init_5 (by decide) ?_
  refine yv_newa (atype := .int) (i := 0) (a0 := (517, .inl (fun _ => 0))) C ac_int rfl rfl (fun _ => rfl) (by decide) (nI_clamp (by decide)) (by decide) ⟨Nat.le_of_ble_eq_true rfl, Nat.le_of_ble_eq_true rfl⟩ dX6_init_8 (fun q0 => ?_)
  rw [yo_app]
  refine yo_putF (f := 1) (fs' := [.int 0, .ref q0, .null, .int 0, .null, .int 0, .null, .null, .int 0, .int 0, .int 0, .int 0, .int 0, .int 0, .null, .null, .int 0, .int 0, .int 0, .null, .null, .null, .null, .null, .null, .null, .null, .null, .null]) C hn9 xt_u6 rfl (by decide) tyX6 tyX6_ok nmX6 lkX6_9 rfl rfl (tyX6_ok 1 (by decide)) rfl rfl (Nat.le_of_ble_eq_true rfl) rfl dX6_init_10 ?_
  refine yv_aload_n C dX6_init_13 rfl ?_
  refine yv_sipush (v := nI 4136) C dX6_init_14 (by decide) ?_
  refine yv_newa (atype := .int) (i := 0) (a0 := (4136, .inl (fun _ => 0))) C ac_int rfl rfl (fun _ => rfl) (by decide) (nI_clamp (by decide)) (by decide) ⟨Nat.le_of_ble_eq_true rfl, Nat.le_of_ble_eq_true rfl⟩ dX6_init_17 (fun q1 => ?_)
  rw [yo_app]
  refine yo_putF (f := 2) (fs' := [.int 0, .ref q0, .ref q1, .int 0, .null, .int 0, .null, .null, .int 0, .int 0, .int 0, .int 0, .int 0, .int 0, .null, .null, .int 0, .int 0, .int 0, .null, .null, .null, .null, .null, .null, .null, .null, .null, .null]) C hn9 xt_u6 rfl (by decide) tyX6 tyX6_ok nmX6 lkX6_13 rfl rfl (tyX6_ok 2 (by decide)) rfl rfl (Nat.le_of_ble_eq_true rfl) rfl dX6_init_19 ?_
  refine yv_aload_n C dX6_init_22 rfl ?_
  refine yv_sipush (v := nI 517) C dX6_init_23 (by decide) ?_
  refine yv_newa (atype := .int) (i := 0) (a0 := (517, .inl (fun _ => 0))) C ac_int rfl rfl (fun _ => rfl) (by decide) (nI_clamp (by decide)) (by decide) ⟨Nat.le_of_ble_eq_true rfl, Nat.le_of_ble_eq_true rfl⟩ dX6_init_26 (fun q2 => ?_)
  rw [yo_app]
  refine yo_putF (f := 4) (fs' := [.int 0, .ref q0, .ref q1, .int 0, .ref q2, .int 0, .null, .null, .int 0, .int 0, .int 0, .int 0, .int 0, .int 0, .null, .null, .int 0, .int 0, .int 0, .null, .null, .null, .null, .null, .null, .null, .null, .null, .null]) C hn9 xt_u6 rfl (by decide) tyX6 tyX6_ok nmX6 lkX6_16 rfl rfl (tyX6_ok 4 (by decide)) rfl rfl (Nat.le_of_ble_eq_true rfl) rfl dX6_init_28 ?_
  refine yv_aload_n C dX6_init_31 rfl ?_
  refine yv_sipush (v := nI 517) C dX6_init_32 (by decide) ?_
  refine yv_newa (atype := .int) (i := 0) (a0 := (517, .inl (fun _ => 0))) C ac_int rfl rfl (fun _ => rfl) (by decide) (nI_clamp (by decide)) (by decide) ⟨Nat.le_of_ble_eq_true rfl, Nat.le_of_ble_eq_true rfl⟩ dX6_init_35 (fun q3 => ?_)
  rw [yo_app]
  refine yo_putF (f := 6) (fs' := [.int 0, .ref q0, .ref q1, .int 0, .ref q2, .int 0, .ref q3, .null, .int 0, .int 0, .int 0, .int 0, .int 0, .int 0, .null, .null, .int 0, .int 0, .int 0, .null, .null, .null, .null, .null, .null, .null, .null, .null, .null]) C hn9 xt_u6 rfl (by decide) tyX6 tyX6_ok nmX6 lkX6_19 rfl rfl (tyX6_ok 6 (by decide)) rfl rfl (Nat.le_of_ble_eq_true rfl) rfl dX6_init_37 ?_
  refine yv_aload_n C dX6_init_40 rfl ?_
  refine yv_bipush (v := nI 60) C dX6_init_41 (by decide) ?_
  refine yv_newa (atype := .int) (i := 0) (a0 := (60, .inl (fun _ => 0))) C ac_int rfl rfl (fun _ => rfl) (by decide) (nI_clamp (by decide)) (by decide) ⟨Nat.le_of_ble_eq_true rfl, Nat.le_of_ble_eq_true rfl⟩ dX6_init_43 (fun q4 => ?_)
  rw [yo_app]
  refine yo_putF (f := 7) (fs' := [.int 0, .ref q0, .ref q1, .int 0, .ref q2, .int 0, .ref q3, .ref q4, .int 0, .int 0, .int 0, .int 0, .int 0, .int 0, .null, .null, .int 0, .int 0, .int 0, .null, .null, .null, .null, .null, .null, .null, .null, .null, .null]) C hn9 xt_u6 rfl (by decide) tyX6 tyX6_ok nmX6 lkX6_22 rfl rfl (tyX6_ok 7 (by decide)) rfl rfl (Nat.le_of_ble_eq_true rfl) rfl dX6_init_45 ?_
  refine yv_aload_n C dX6_init_48 rfl ?_
  refine yv_iconst (v := (-1)) C dX6_init_49 rfl ?_
  refine yo_put (f := 10) (fs' := [.int 0, .ref q0, .ref q1, .int 0, .ref q2, .int 0, .ref q3, .ref q4, .int 0, .int 0, .int ((-1)), .int 0, .int 0, .int 0, .null, .null, .int 0, .int 0, .int 0, .null, .null, .null, .null, .null, .null, .null, .null, .null, .null]) C xt_u6 rfl (by decide) tyX6 tyX6_ok nmX6 lkX6_25 rfl (tyX6_ok 10 (by decide)) rfl rfl (Nat.le_of_ble_eq_true rfl) rfl dX6_init_50 ?_
  refine yv_aload_n C dX6_init_53 rfl ?_
  refine yv_iconst (v := (-1)) C dX6_init_54 rfl ?_
  refine yo_put (f := 13) (fs' := [.int 0, .ref q0, .ref q1, .int 0, .ref q2, .int 0, .ref q3, .ref q4, .int 0, .int 0, .int ((-1)), .int 0, .int 0, .int ((-1)), .null, .null, .int 0, .int 0, .int 0, .null, .null, .null, .null, .null, .null, .null, .null, .null, .null]) C xt_u6 rfl (by decide) tyX6 tyX6_ok nmX6 lkX6_29 rfl (tyX6_ok 13 (by decide)) rfl rfl (Nat.le_of_ble_eq_true rfl) rfl dX6_init_55 ?_
  refine yv_aload_n C dX6_init_58 rfl ?_
  refine yv_bipush (v := nI 64) C dX6_init_59 (by decide) ?_
  refine yv_newa (atype := .int) (i := 0) (a0 := (64, .inl (fun _ => 0))) C ac_int rfl rfl (fun _ => rfl) (by decide) (nI_clamp (by decide)) (by decide) ⟨Nat.le_of_ble_eq_true rfl, Nat.le_of_ble_eq_true rfl⟩ dX6_init_61 (fun q5 => ?_)
  rw [yo_app]
  refine yo_putF (f := 14) (fs' := [.int 0, .ref q0, .ref q1, .int 0, .ref q2, .int 0, .ref q3, .ref q4, .int 0, .int 0, .int ((-1)), .int 0, .int 0, .int ((-1)), .ref q5, .null, .int 0, .int 0, .int 0, .null, .null, .null, .null, .null, .null, .null, .null, .null, .null]) C hn9 xt_u6 rfl (by decide) tyX6 tyX6_ok nmX6 lkX6_32 rfl rfl (tyX6_ok 14 (by decide)) rfl rfl (Nat.le_of_ble_eq_true rfl) rfl dX6_init_63 ?_
  refine yv_aload_n C dX6_init_66 rfl ?_
  refine yv_bipush (v := nI 64) C dX6_init_67 (by decide) ?_
  refine yv_newa (atype := .int) (i := 0) (a0 := (64, .inl (fun _ => 0))) C ac_int rfl rfl (fun _ => rfl) (by decide) (nI_clamp (by decide)) (by decide) ⟨Nat.le_of_ble_eq_true rfl, Nat.le_of_ble_eq_true rfl⟩ dX6_init_69 (fun q6 => ?_)
  rw [yo_app]
  refine yo_putF (f := 15) (fs' := [.int 0, .ref q0, .ref q1, .int 0, .ref q2, .int 0, .ref q3, .ref q4, .int 0, .int 0, .int ((-1)), .int 0, .int 0, .int ((-1)), .ref q5, .ref q6, .int 0, .int 0, .int 0, .null, .null, .null, .null, .null, .null, .null, .null, .null, .null]) C hn9 xt_u6 rfl (by decide) tyX6 tyX6_ok nmX6 lkX6_35 rfl rfl (tyX6_ok 15 (by decide)) rfl rfl (Nat.le_of_ble_eq_true rfl) rfl dX6_init_71 ?_
  refine yv_aload_n C dX6_init_74 rfl ?_
  refine yv_iconst (v := nI 5) C dX6_init_75 rfl ?_
  refine yv_newa (atype := .int) (i := 0) (a0 := (5, .inl (fun _ => 0))) C ac_int rfl rfl (fun _ => rfl) (by decide) (nI_clamp (by decide)) (by decide) ⟨Nat.le_of_ble_eq_true rfl, Nat.le_of_ble_eq_true rfl⟩ dX6_init_76 (fun q7 => ?_)
  rw [yo_app]
  refine yo_putF (f := 19) (fs' := [.int 0, .ref q0, .ref q1, .int 0, .ref q2, .int 0, .ref q3, .ref q4, .int 0, .int 0, .int ((-1)), .int 0, .int 0, .int ((-1)), .ref q5, .ref q6, .int 0, .int 0, .int 0, .ref q7, .null, .null, .null, .null, .null, .null, .null, .null, .null]) C hn9 xt_u6 rfl (by decide) tyX6 tyX6_ok nmX6 lkX6_38 rfl rfl (tyX6_ok 19 (by decide)) rfl rfl (Nat.le_of_ble_eq_true rfl) rfl dX6_init_78 ?_
  refine yv_aload_n C dX6_init_81 rfl ?_
  refine yv_iconst (v := nI 5) C dX6_init_82 rfl ?_
  refine yv_newa (atype := .int) (i := 0) (a0 := (5, .inl (fun _ => 0))) C ac_int rfl rfl (fun _ => rfl) (by decide) (nI_clamp (by decide)) (by decide) ⟨Nat.le_of_ble_eq_true rfl, Nat.le_of_ble_eq_true rfl⟩ dX6_init_83 (fun q8 => ?_)
  rw [yo_app]
  refine yo_putF (f := 20) (fs' := [.int 0, .ref q0, .ref q1, .int 0, .ref q2, .int 0, .ref q3, .ref q4, .int 0, .int 0, .int ((-1)), .int 0, .int 0, .int ((-1)), .ref q5, .ref q6, .int 0, .int 0, .int 0, .ref q7, .ref q8, .null, .null, .null, .null, .null, .null, .null, .null]) C hn9 xt_u6 rfl (by decide) tyX6 tyX6_ok nmX6 lkX6_41 rfl rfl (tyX6_ok 20 (by decide)) rfl rfl (Nat.le_of_ble_eq_true rfl) rfl dX6_init_85 ?_
  refine yv_aload_n C dX6_init_88 rfl ?_
  refine yv_bipush (v := nI 64) C dX6_init_89 (by decide) ?_
  refine yv_newa (atype := .int) (i := 0) (a0 := (64, .inl (fun _ => 0))) C ac_int rfl rfl (fun _ => rfl) (by decide) (nI_clamp (by decide)) (by decide) ⟨Nat.le_of_ble_eq_true rfl, Nat.le_of_ble_eq_true rfl⟩ dX6_init_91 (fun q9 => ?_)
  rw [yo_app]
  refine yo_putF (f := 21) (fs' := [.int 0, .ref q0, .ref q1, .int 0, .ref q2, .int 0, .ref q3, .ref q4, .int 0, .int 0, .int ((-1)), .int 0, .int 0, .int ((-1)), .ref q5, .ref q6, .int 0, .int 0, .int 0, .ref q7, .ref q8, .ref q9, .null, .null, .null, .null, .null, .null, .null]) C hn9 xt_u6 rfl (by decide) tyX6 tyX6_ok nmX6 lkX6_44 rfl rfl (tyX6_ok 21 (by decide)) rfl rfl (Nat.le_of_ble_eq_true rfl) rfl dX6_init_93 ?_
  refine yv_aload_n C dX6_init_96 rfl ?_
  refine yv_bipush (v := nI 64) C dX6_init_97 (by decide) ?_
  refine yv_newa (atype := .boolean) (i := 4) (a0 := (64, .inl (fun _ => 0))) C ac_boolean rfl rfl (fun _ => rfl) (by decide) (nI_clamp (by decide)) (by decide) ⟨Nat.le_of_ble_eq_true rfl, Nat.le_of_ble_eq_true rfl⟩ dX6_init_99 (fun q10 => ?_)
  rw [yo_app]
  refine yo_putF (f := 22) (fs' := [.int 0, .ref q0, .ref q1, .int 0, .ref q2, .int 0, .ref q3, .ref q4, .int 0, .int 0, .int ((-1)), .int 0, .int 0, .int ((-1)), .ref q5, .ref q6, .int 0, .int 0, .int 0, .ref q7, .ref q8, .ref q9, .ref q10, .null, .null, .null, .null, .null, .null]) C hn9 xt_u6 rfl (by decide) tyX6 tyX6_ok nmX6 lkX6_47 rfl rfl (tyX6_ok 22 (by decide)) rfl rfl (Nat.le_of_ble_eq_true rfl) rfl dX6_init_101 ?_
  refine yv_aload_n C dX6_init_104 rfl ?_
  refine yv_bipush (v := nI 64) C dX6_init_105 (by decide) ?_
  refine yv_newa (atype := .int) (i := 0) (a0 := (64, .inl (fun _ => 0))) C ac_int rfl rfl (fun _ => rfl) (by decide) (nI_clamp (by decide)) (by decide) ⟨Nat.le_of_ble_eq_true rfl, Nat.le_of_ble_eq_true rfl⟩ dX6_init_107 (fun q11 => ?_)
  rw [yo_app]
  refine yo_putF (f := 23) (fs' := [.int 0, .ref q0, .ref q1, .int 0, .ref q2, .int 0, .ref q3, .ref q4, .int 0, .int 0, .int ((-1)), .int 0, .int 0, .int ((-1)), .ref q5, .ref q6, .int 0, .int 0, .int 0, .ref q7, .ref q8, .ref q9, .ref q10, .ref q11, .null, .null, .null, .null, .null]) C hn9 xt_u6 rfl (by decide) tyX6 tyX6_ok nmX6 lkX6_51 rfl rfl (tyX6_ok 23 (by decide)) rfl rfl (Nat.le_of_ble_eq_true rfl) rfl dX6_init_109 ?_
  refine yv_aload_n C dX6_init_112 rfl ?_
  refine yv_bipush (v := nI 8) C dX6_init_113 (by decide) ?_
  refine yv_newa (atype := .int) (i := 0) (a0 := (8, .inl (fun _ => 0))) C ac_int rfl rfl (fun _ => rfl) (by decide) (nI_clamp (by decide)) (by decide) ⟨Nat.le_of_ble_eq_true rfl, Nat.le_of_ble_eq_true rfl⟩ dX6_init_115 (fun q12 => ?_)
  rw [yo_app]
  refine yo_putF (f := 24) (fs' := [.int 0, .ref q0, .ref q1, .int 0, .ref q2, .int 0, .ref q3, .ref q4, .int 0, .int 0, .int ((-1)), .int 0, .int 0, .int ((-1)), .ref q5, .ref q6, .int 0, .int 0, .int 0, .ref q7, .ref q8, .ref q9, .ref q10, .ref q11, .ref q12, .null, .null, .null, .null]) C hn9 xt_u6 rfl (by decide) tyX6 tyX6_ok nmX6 lkX6_54 rfl rfl (tyX6_ok 24 (by decide)) rfl rfl (Nat.le_of_ble_eq_true rfl) rfl dX6_init_117 ?_
  refine yv_aload_n C dX6_init_120 rfl ?_
  refine yv_bipush (v := nI 8) C dX6_init_121 (by decide) ?_
  refine yv_newa (atype := .boolean) (i := 4) (a0 := (8, .inl (fun _ => 0))) C ac_boolean rfl rfl (fun _ => rfl) (by decide) (nI_clamp (by decide)) (by decide) ⟨Nat.le_of_ble_eq_true rfl, Nat.le_of_ble_eq_true rfl⟩ dX6_init_123 (fun q13 => ?_)
  rw [yo_app]
  refine yo_putF (f := 25) (fs' := [.int 0, .ref q0, .ref q1, .int 0, .ref q2, .int 0, .ref q3, .ref q4, .int 0, .int 0, .int ((-1)), .int 0, .int 0, .int ((-1)), .ref q5, .ref q6, .int 0, .int 0, .int 0, .ref q7, .ref q8, .ref q9, .ref q10, .ref q11, .ref q12, .ref q13, .null, .null, .null]) C hn9 xt_u6 rfl (by decide) tyX6 tyX6_ok nmX6 lkX6_57 rfl rfl (tyX6_ok 25 (by decide)) rfl rfl (Nat.le_of_ble_eq_true rfl) rfl dX6_init_125 ?_
  refine yv_aload_n C dX6_init_128 rfl ?_
  refine yv_bipush (v := nI 64) C dX6_init_129 (by decide) ?_
  refine yv_newa (atype := .long) (i := 1) (a0 := (64, .inr (.inl (fun _ => 0)))) C ac_long rfl rfl (fun _ => rfl) (by decide) (nI_clamp (by decide)) (by decide) ⟨Nat.le_of_ble_eq_true rfl, Nat.le_of_ble_eq_true rfl⟩ dX6_init_131 (fun q14 => ?_)
  rw [yo_app]
  refine yo_putF (f := 26) (fs' := [.int 0, .ref q0, .ref q1, .int 0, .ref q2, .int 0, .ref q3, .ref q4, .int 0, .int 0, .int ((-1)), .int 0, .int 0, .int ((-1)), .ref q5, .ref q6, .int 0, .int 0, .int 0, .ref q7, .ref q8, .ref q9, .ref q10, .ref q11, .ref q12, .ref q13, .ref q14, .null, .null]) C hn9 xt_u6 rfl (by decide) tyX6 tyX6_ok nmX6 lkX6_60 rfl rfl (tyX6_ok 26 (by decide)) rfl rfl (Nat.le_of_ble_eq_true rfl) rfl dX6_init_133 ?_
  refine yv_aload_n C dX6_init_136 rfl ?_
  refine yv_bipush (v := nI 8) C dX6_init_137 (by decide) ?_
  refine yv_newa (atype := .long) (i := 1) (a0 := (8, .inr (.inl (fun _ => 0)))) C ac_long rfl rfl (fun _ => rfl) (by decide) (nI_clamp (by decide)) (by decide) ⟨Nat.le_of_ble_eq_true rfl, Nat.le_of_ble_eq_true rfl⟩ dX6_init_139 (fun q15 => ?_)
  rw [yo_app]
  refine yo_putF (f := 27) (fs' := [.int 0, .ref q0, .ref q1, .int 0, .ref q2, .int 0, .ref q3, .ref q4, .int 0, .int 0, .int ((-1)), .int 0, .int 0, .int ((-1)), .ref q5, .ref q6, .int 0, .int 0, .int 0, .ref q7, .ref q8, .ref q9, .ref q10, .ref q11, .ref q12, .ref q13, .ref q14, .ref q15, .null]) C hn9 xt_u6 rfl (by decide) tyX6 tyX6_ok nmX6 lkX6_64 rfl rfl (tyX6_ok 27 (by decide)) rfl rfl (Nat.le_of_ble_eq_true rfl) rfl dX6_init_141 ?_
  refine yv_aload_n C dX6_init_144 rfl ?_
  refine yv_iconst (v := nI 4) C dX6_init_145 rfl ?_
  refine yv_newa (atype := .int) (i := 0) (a0 := (4, .inl (fun _ => 0))) C ac_int rfl rfl (fun _ => rfl) (by decide) (nI_clamp (by decide)) (by decide) ⟨Nat.le_of_ble_eq_true rfl, Nat.le_of_ble_eq_true rfl⟩ dX6_init_146 (fun q16 => ?_)
  rw [yo_app]
  refine yo_putF (f := 28) (fs' := [.int 0, .ref q0, .ref q1, .int 0, .ref q2, .int 0, .ref q3, .ref q4, .int 0, .int 0, .int ((-1)), .int 0, .int 0, .int ((-1)), .ref q5, .ref q6, .int 0, .int 0, .int 0, .ref q7, .ref q8, .ref q9, .ref q10, .ref q11, .ref q12, .ref q13, .ref q14, .ref q15, .ref q16]) C hn9 xt_u6 rfl (by decide) tyX6 tyX6_ok nmX6 lkX6_67 rfl rfl (tyX6_ok 28 (by decide)) rfl rfl (Nat.le_of_ble_eq_true rfl) rfl dX6_init_148 ?_
  refine yv_aload_n C dX6_init_151 rfl ?_
  refine yv_bipush (v := nI 8) C dX6_init_152 (by decide) ?_
  refine yv_bipush (v := nI 8) C dX6_init_154 (by decide) ?_
  refine yv_callV (As := [.int (nI 8), .int (nI 8)]) (ci := 6) C mv_X6_lays lkX6_70 (cw_lays w0.length (w0.length + 1 + 0) xt_wget rfl (xt_wge rfl)) rfl xt_wget rfl ⟨Nat.le_of_ble_eq_true rfl, Nat.le_of_ble_eq_true rfl, Nat.le_of_ble_eq_true rfl, Nat.le_of_ble_eq_true rfl⟩ rfl (Nat.le_of_ble_eq_true rfl) dX6_init_156 (fun v9 w9 h9 => ?_)
  obtain ⟨rfl, rfl⟩ := h9
  rw [xt_wse]
  refine yv_aload_n C dX6_init_159 rfl ?_
  refine yv_get (f := 1) C xt_u6 rfl w0.length xt_wget (by decide) lkX6_9 rfl dX6_init_160 ?_
  refine yv_iconst (v := nI 2) C dX6_init_163 rfl ?_
  refine yv_iconst (v := nI 4) C dX6_init_164 rfl ?_
  refine yv_iast C (w0.length + 1 + 0) (xt_wge rfl) (vp_in_nI (by decide) (by decide)) xt_wse dX6_init_165 ?_
  rw [nI_clamp (by decide)]
  refine yv_aload_n C dX6_init_166 rfl ?_
  refine yv_get (f := 1) C xt_u6 rfl w0.length xt_wget (by decide) lkX6_9 rfl dX6_init_167 ?_
  refine yv_iconst (v := nI 3) C dX6_init_170 rfl ?_
  refine yv_iconst (v := nI 2) C dX6_init_171 rfl ?_
  refine yv_iast C (w0.length + 1 + 0) (xt_wge rfl) (vp_in_nI (by decide) (by decide)) xt_wse dX6_init_172 ?_
  rw [nI_clamp (by decide)]
  exact yv_vret C dX6_init_173 ⟨Nat.le_of_ble_eq_true rfl, Nat.le_of_ble_eq_true rfl⟩ ⟨rfl, fun i => [q0, q1, q2, q3, q4, q5, q6, q7, q8, q9, q10, q11, q12, q13, q14, q15, q16].getD (i - 50) 0, rfl⟩
end XN2
