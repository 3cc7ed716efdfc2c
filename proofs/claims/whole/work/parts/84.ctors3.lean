section XN2
variable {E : xt_Ev} {l : Launch}
set_option maxRecDepth 20000 in
set_option maxHeartbeats 4000000 in
theorem cn_X5 (w0 : va_W) (a : Nat) : xt_Cw E l yX5_init cX5_init 1 none 3 53 48 5951 [.ref a] (w0 ++ (a, .inr (5, [.null, .null, .int 0, .null, .null, .null, .null, .int 0, .int 0, .int 0])) :: []) (fun v w9 => v = none ∧ ∃ (q : Nat → Nat) (f : Nat → Option Nat), (∀ j, j < 8 → f j = some (q (9 + 3 * j))) ∧ w9 = w0 ++ (a, .inr (5, [.ref (q 1), .ref (q 4), .int (nI 0), .ref (q 7), .ref (q 33), .ref (q 42), .ref (q 46), .int (-1), .int (-1), .int (nI 0)])) :: [(q 1, .inr (1, [.int (nI 8), .int (nI 8), .int (nI 4), .int (nI 2), .int (nI 0), .ref (q 2), .ref (q 3)])), (q 2, .inl (E.2.2.2.1 0, 256, .inl (fun _ => 0))), (q 3, .inl (E.2.2.2.1 0, 256, .inl (fun _ => 0))), (q 4, .inr (1, [.int (nI 8), .int (nI 8), .int (nI 4), .int (nI 2), .int (nI 0), .ref (q 5), .ref (q 6)])), (q 5, .inl (E.2.2.2.1 0, 256, .inl (fun _ => 0))), (q 6, .inl (E.2.2.2.1 0, 256, .inl (fun _ => 0))), (q 7, .inr (0, [.ref (q 8), .int (nI 0), .int (nI 0)])), (q 8, .inl (E.2.2.2.1 5, 8, .inr (.inr (.inr (.inr f))))), (q 9, .inr (1, [.int (nI 8), .int (nI 8), .int (nI 4), .int (nI 2), .int (nI 0), .ref (q 10), .ref (q 11)])), (q 10, .inl (E.2.2.2.1 0, 256, .inl (fun _ => 0))), (q 11, .inl (E.2.2.2.1 0, 256, .inl (fun _ => 0))), (q 12, .inr (1, [.int (nI 8), .int (nI 8), .int (nI 4), .int (nI 2), .int (nI 0), .ref (q 13), .ref (q 14)])), (q 13, .inl (E.2.2.2.1 0, 256, .inl (fun _ => 0))), (q 14, .inl (E.2.2.2.1 0, 256, .inl (fun _ => 0))), (q 15, .inr (1, [.int (nI 8), .int (nI 8), .int (nI 4), .int (nI 2), .int (nI 0), .ref (q 16), .ref (q 17)])), (q 16, .inl (E.2.2.2.1 0, 256, .inl (fun _ => 0))), (q 17, .inl (E.2.2.2.1 0, 256, .inl (fun _ => 0))), (q 18, .inr (1, [.int (nI 8), .int (nI 8), .int (nI 4), .int (nI 2), .int (nI 0), .ref (q 19), .ref (q 20)])), (q 19, .inl (E.2.2.2.1 0, 256, .inl (fun _ => 0))), (q 20, .inl (E.2.2.2.1 0, 256, .inl (fun _ => 0))), (q 21, .inr (1, [.int (nI 8), .int (nI 8), .int (nI 4), .int (nI 2), .int (nI 0), .ref (q 22), .ref (q 23)])), (q 22, .inl (E.2.2.2.1 0, 256, .inl (fun _ => 0))), (q 23, .inl (E.2.2.2.1 0, 256, .inl (fun _ => 0))), (q 24, .inr (1, [.int (nI 8), .int (nI 8), .int (nI 4), .int (nI 2), .int (nI 0), .ref (q 25), .ref (q 26)])), (q 25, .inl (E.2.2.2.1 0, 256, .inl (fun _ => 0))), (q 26, .inl (E.2.2.2.1 0, 256, .inl (fun _ => 0))), (q 27, .inr (1, [.int (nI 8), .int (nI 8), .int (nI 4), .int (nI 2), .int (nI 0), .ref (q 28), .ref (q 29)])), (q 28, .inl (E.2.2.2.1 0, 256, .inl (fun _ => 0))), (q 29, .inl (E.2.2.2.1 0, 256, .inl (fun _ => 0))), (q 30, .inr (1, [.int (nI 8), .int (nI 8), .int (nI 4), .int (nI 2), .int (nI 0), .ref (q 31), .ref (q 32)])), (q 31, .inl (E.2.2.2.1 0, 256, .inl (fun _ => 0))), (q 32, .inl (E.2.2.2.1 0, 256, .inl (fun _ => 0))), (q 33, .inr (4, [.int 0, .int 0, .int 0, .int 0, .int 0, .int 0, .ref (q 34), .ref (q 35), .ref (q 36), .ref (q 37), .ref (q 38), .ref (q 39), .ref (q 40), .ref (q 41)])), (q 34, .inl (E.2.2.2.1 0, 64, .inl (fun _ => 0))), (q 35, .inl (E.2.2.2.1 0, 64, .inl (fun _ => 0))), (q 36, .inl (E.2.2.2.1 0, 64, .inl (fun _ => 0))), (q 37, .inl (E.2.2.2.1 0, 64, .inl (fun _ => 0))), (q 38, .inl (E.2.2.2.1 0, 64, .inl (fun _ => 0))), (q 39, .inl (E.2.2.2.1 0, 64, .inl (fun _ => 0))), (q 40, .inl (E.2.2.2.1 0, 64, .inl (fun _ => 0))), (q 41, .inl (E.2.2.2.1 0, 8, .inl (fun _ => 0))), (q 42, .inr (2, [.int (-1), .ref (q 43), .ref (q 44), .ref (q 45)])), (q 43, .inl (E.2.2.2.1 0, 64, .inl (fun _ => 0))), (q 44, .inl (E.2.2.2.1 0, 64, .inl (fun _ => 0))), (q 45, .inl (E.2.2.2.1 0, 64, .inl (fun _ => 0))), (q 46, .inr (3, [.ref (q 47), .int (nI 0), .ref (q 48), .int (nI 0)])), (q 47, .inl (E.2.2.2.1 3, 60, .inl (fun _ => 0))), (q 48, .inl (E.2.2.2.1 0, 20, .inl (fun _ => 0)))]) := by
  refine xt_bodyW (by decide +kernel) (xt_all rfl) (Nat.le_of_ble_eq_true rfl) (fun cx C hl9 hn9 => ?_)
  show xt_Yw E cx _ 0 0 0 [some (.ref a)] [] (w0 ++ (a, .inr (5, [.null, .null, .int 0, .null, .null, .null, .null, .int 0, .int 0, .int 0])) :: [])
  refine yv_aload_n C dX5_init_0 rfl ?_
  refine yv_obj C lkX5_1 oi_i oi_c rfl ⟨Nat.le_of_ble_eq_true rfl, Nat.le_of_ble_eq_true rfl⟩ dX5_init_1 ?_
  refine yv_aload_n C dX5_init_4 rfl ?_
  refine yv_new (ci := 1) (fs := [.int 0, .int 0, .int 0, .int 0, .int 0, .null, .null]) C xt_u1 tyX1 tyX1_ok lkcX5_7 it_X1 ii_X1 rfl df_X1 ⟨Nat.le_of_ble_eq_true rfl, Nat.le_of_ble_eq_true rfl⟩ dX5_init_5 (fun q0 => ?_)
  refine yv_dup C dX5_init_8 rfl ?_
  refine yv_ctorN C mi_X1 rfl lkX5_9 (cn_X1 _ q0) ⟨Nat.le_of_ble_eq_true rfl, Nat.le_of_ble_eq_true rfl, Nat.le_of_ble_eq_true rfl, Nat.le_of_ble_eq_true rfl⟩ rfl (Nat.le_of_ble_eq_true rfl) dX5_init_9 (fun v9 w9 h9 => ?_)
  obtain ⟨rfl, q1, q2, rfl⟩ := h9
  rw [yo_app]
  show xt_Yw E cx _ _ _ _ _ [.ref q0, .ref a] _
  refine yo_putF (f := 0) (fs' := [.ref q0, .null, .int 0, .null, .null, .null, .null, .int 0, .int 0, .int 0]) C hn9 xt_u5 rfl (by decide) tyX5 tyX5_ok nmX5 lkX5_10 rfl rfl (tyX5_ok 0 (by decide)) rfl rfl (Nat.le_of_ble_eq_true rfl) rfl dX5_init_12 ?_
  refine yv_aload_n C dX5_init_15 rfl ?_
  refine yv_new (ci := 1) (fs := [.int 0, .int 0, .int 0, .int 0, .int 0, .null, .null]) C xt_u1 tyX1 tyX1_ok lkcX5_7 it_X1 ii_X1 rfl df_X1 ⟨Nat.le_of_ble_eq_true rfl, Nat.le_of_ble_eq_true rfl⟩ dX5_init_16 (fun q3 => ?_)
  refine yv_dup C dX5_init_19 rfl ?_
  refine yv_ctorN C mi_X1 rfl lkX5_9 (cn_X1 _ q3) ⟨Nat.le_of_ble_eq_true rfl, Nat.le_of_ble_eq_true rfl, Nat.le_of_ble_eq_true rfl, Nat.le_of_ble_eq_true rfl⟩ rfl (Nat.le_of_ble_eq_true rfl) dX5_init_20 (fun v9 w9 h9 => ?_)
  obtain ⟨rfl, q4, q5, rfl⟩ := h9
  rw [yo_app]
  show xt_Yw E cx _ _ _ _ _ [.ref q3, .ref a] _
  refine yo_putF (f := 1) (fs' := [.ref q0, .ref q3, .int 0, .null, .null, .null, .null, .int 0, .int 0, .int 0]) C hn9 xt_u5 rfl (by decide) tyX5 tyX5_ok nmX5 lkX5_16 rfl rfl (tyX5_ok 1 (by decide)) rfl rfl (Nat.le_of_ble_eq_true rfl) rfl dX5_init_23 ?_
  refine yv_aload_n C dX5_init_26 rfl ?_
  refine yv_iconst (v := nI 0) C dX5_init_27 rfl ?_
  refine yo_put (f := 2) (fs' := [.ref q0, .ref q3, .int (nI 0), .null, .null, .null, .null, .int 0, .int 0, .int 0]) C xt_u5 rfl (by decide) tyX5 tyX5_ok nmX5 lkX5_19 rfl (tyX5_ok 2 (by decide)) rfl rfl (Nat.le_of_ble_eq_true rfl) rfl dX5_init_28 ?_
  refine yv_aload_n C dX5_init_31 rfl ?_
  refine yv_new (ci := 0) (fs := [.null, .int 0, .int 0]) C xt_u0 tyX0 tyX0_ok lkcX5_23 it_X0 ii_X0 rfl df_X0 ⟨Nat.le_of_ble_eq_true rfl, Nat.le_of_ble_eq_true rfl⟩ dX5_init_32 (fun q6 => ?_)
  refine yv_dup C dX5_init_35 rfl ?_
  refine yv_ctorN C mi_X0 rfl lkX5_25 (cn_X0 _ q6) ⟨Nat.le_of_ble_eq_true rfl, Nat.le_of_ble_eq_true rfl, Nat.le_of_ble_eq_true rfl, Nat.le_of_ble_eq_true rfl⟩ rfl (Nat.le_of_ble_eq_true rfl) dX5_init_36 (fun v9 w9 h9 => ?_)
  obtain ⟨rfl, hq7, hf7, hr7, rfl⟩ := h9
  rw [yo_app]
  show xt_Yw E cx _ _ _ _ _ [.ref q6, .ref a] _
  refine yo_putF (f := 3) (fs' := [.ref q0, .ref q3, .int (nI 0), .ref q6, .null, .null, .null, .int 0, .int 0, .int 0]) C hn9 xt_u5 rfl (by decide) tyX5 tyX5_ok nmX5 lkX5_26 rfl rfl (tyX5_ok 3 (by decide)) rfl rfl (Nat.le_of_ble_eq_true rfl) rfl dX5_init_39 ?_
  refine yv_aload_n C dX5_init_42 rfl ?_
  refine yv_new (ci := 4) (fs := [.int 0, .int 0, .int 0, .int 0, .int 0, .int 0, .null, .null, .null, .null, .null, .null, .null, .null]) C xt_u4 tyX4 tyX4_ok lkcX5_30 it_X4 ii_X4 rfl df_X4 ⟨Nat.le_of_ble_eq_true rfl, Nat.le_of_ble_eq_true rfl⟩ dX5_init_43 (fun q8 => ?_)
  refine yv_dup C dX5_init_46 rfl ?_
  refine yv_ctorN C mi_X4 rfl lkX5_32 (cn_X4 _ q8) ⟨Nat.le_of_ble_eq_true rfl, Nat.le_of_ble_eq_true rfl, Nat.le_of_ble_eq_true rfl, Nat.le_of_ble_eq_true rfl⟩ rfl (Nat.le_of_ble_eq_true rfl) dX5_init_47 (fun v9 w9 h9 => ?_)
  obtain ⟨rfl, q9, q10, q11, q12, q13, q14, q15, q16, rfl⟩ := h9
  rw [yo_app]
  show xt_Yw E cx _ _ _ _ _ [.ref q8, .ref a] _
  refine yo_putF (f := 4) (fs' := [.ref q0, .ref q3, .int (nI 0), .ref q6, .ref q8, .null, .null, .int 0, .int 0, .int 0]) C hn9 xt_u5 rfl (by decide) tyX5 tyX5_ok nmX5 lkX5_33 rfl rfl (tyX5_ok 4 (by decide)) rfl rfl (Nat.le_of_ble_eq_true rfl) rfl dX5_init_50 ?_
  refine yv_aload_n C dX5_init_53 rfl ?_
  refine yv_new (ci := 2) (fs := [.int 0, .null, .null, .null]) C xt_u2 tyX2 tyX2_ok lkcX5_37 it_X2 ii_X2 rfl df_X2 ⟨Nat.le_of_ble_eq_true rfl, Nat.le_of_ble_eq_true rfl⟩ dX5_init_54 (fun q17 => ?_)
  refine yv_dup C dX5_init_57 rfl ?_
  refine yv_ctorN C mi_X2 rfl lkX5_39 (cn_X2 _ q17) ⟨Nat.le_of_ble_eq_true rfl, Nat.le_of_ble_eq_true rfl, Nat.le_of_ble_eq_true rfl, Nat.le_of_ble_eq_true rfl⟩ rfl (Nat.le_of_ble_eq_true rfl) dX5_init_58 (fun v9 w9 h9 => ?_)
  obtain ⟨rfl, q18, q19, q20, rfl⟩ := h9
  rw [yo_app]
  show xt_Yw E cx _ _ _ _ _ [.ref q17, .ref a] _
  refine yo_putF (f := 5) (fs' := [.ref q0, .ref q3, .int (nI 0), .ref q6, .ref q8, .ref q17, .null, .int 0, .int 0, .int 0]) C hn9 xt_u5 rfl (by decide) tyX5 tyX5_ok nmX5 lkX5_40 rfl rfl (tyX5_ok 5 (by decide)) rfl rfl (Nat.le_of_ble_eq_true rfl) rfl dX5_init_61 ?_
  refine yv_aload_n C dX5_init_64 rfl ?_
  refine yv_new (ci := 3) (fs := [.null, .int 0, .null, .int 0]) C xt_u3 tyX3 tyX3_ok lkcX5_44 it_X3 ii_X3 rfl df_X3 ⟨Nat.le_of_ble_eq_true rfl, Nat.le_of_ble_eq_true rfl⟩ dX5_init_65 (fun q21 => ?_)
  refine yv_dup C dX5_init_68 rfl ?_
  refine yv_ctorN C mi_X3 rfl lkX5_46 (cn_X3 _ q21) ⟨Nat.le_of_ble_eq_true rfl, Nat.le_of_ble_eq_true rfl, Nat.le_of_ble_eq_true rfl, Nat.le_of_ble_eq_true rfl⟩ rfl (Nat.le_of_ble_eq_true rfl) dX5_init_69 (fun v9 w9 h9 => ?_)
  obtain ⟨rfl, q22, q23, rfl⟩ := h9
  rw [yo_app]
  show xt_Yw E cx _ _ _ _ _ [.ref q21, .ref a] _
  refine yo_putF (f := 6) (fs' := [.ref q0, .ref q3, .int (nI 0), .ref q6, .ref q8, .ref q17, .ref q21, .int 0, .int 0, .int 0]) C hn9 xt_u5 rfl (by decide) tyX5 tyX5_ok nmX5 lkX5_47 rfl rfl (tyX5_ok 6 (by decide)) rfl rfl (Nat.le_of_ble_eq_true rfl) rfl dX5_init_72 ?_
  refine yv_aload_n C dX5_init_75 rfl ?_
  refine yv_iconst (v := (-1)) C dX5_init_76 rfl ?_
  refine yo_put (f := 7) (fs' := [.ref q0, .ref q3, .int (nI 0), .ref q6, .ref q8, .ref q17, .ref q21, .int ((-1)), .int 0, .int 0]) C xt_u5 rfl (by decide) tyX5 tyX5_ok nmX5 lkX5_51 rfl (tyX5_ok 7 (by decide)) rfl rfl (Nat.le_of_ble_eq_true rfl) rfl dX5_init_77 ?_
  refine yv_aload_n C dX5_init_80 rfl ?_
  refine yv_iconst (v := (-1)) C dX5_init_81 rfl ?_
  refine yo_put (f := 8) (fs' := [.ref q0, .ref q3, .int (nI 0), .ref q6, .ref q8, .ref q17, .ref q21, .int ((-1)), .int ((-1)), .int 0]) C xt_u5 rfl (by decide) tyX5 tyX5_ok nmX5 lkX5_55 rfl (tyX5_ok 8 (by decide)) rfl rfl (Nat.le_of_ble_eq_true rfl) rfl dX5_init_82 ?_
  refine yv_aload_n C dX5_init_85 rfl ?_
  refine yv_iconst (v := nI 0) C dX5_init_86 rfl ?_
  refine yo_put (f := 9) (fs' := [.ref q0, .ref q3, .int (nI 0), .ref q6, .ref q8, .ref q17, .ref q21, .int ((-1)), .int ((-1)), .int (nI 0)]) C xt_u5 rfl (by decide) tyX5 tyX5_ok nmX5 lkX5_58 rfl (tyX5_ok 9 (by decide)) rfl rfl (Nat.le_of_ble_eq_true rfl) rfl dX5_init_87 ?_
  exact yv_vret C dX5_init_90 ⟨Nat.le_of_ble_eq_true rfl, Nat.le_of_ble_eq_true rfl⟩ ⟨rfl, fun i => [0, q0, q1, q2, q3, q4, q5, q6, hq7 0, hq7 1, hq7 2, hq7 3, hq7 4, hq7 5, hq7 6, hq7 7, hq7 8, hq7 9, hq7 10, hq7 11, hq7 12, hq7 13, hq7 14, hq7 15, hq7 16, hq7 17, hq7 18, hq7 19, hq7 20, hq7 21, hq7 22, hq7 23, hq7 24, q8, q9, q10, q11, q12, q13, q14, q15, q16, q17, q18, q19, q20, q21, q22, q23].getD i 0, hf7, xt_row9 (q := fun i => [0, q0, q1, q2, q3, q4, q5, q6, hq7 0, hq7 1, hq7 2, hq7 3, hq7 4, hq7 5, hq7 6, hq7 7, hq7 8, hq7 9, hq7 10, hq7 11, hq7 12, hq7 13, hq7 14, hq7 15, hq7 16, hq7 17, hq7 18, hq7 19, hq7 20, hq7 21, hq7 22, hq7 23, hq7 24, q8, q9, q10, q11, q12, q13, q14, q15, q16, q17, q18, q19, q20, q21, q22, q23].getD i 0) hr7 rfl rfl rfl rfl rfl rfl rfl rfl, rfl⟩
end XN2
