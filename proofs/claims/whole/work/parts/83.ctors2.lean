section XN2
variable {E : xt_Ev} {l : Launch}
set_option maxRecDepth 20000 in
set_option maxHeartbeats 4000000 in
theorem cn_X0 (w0 : va_W) (a : Nat) : xt_Cw E l yX0_init cX0_init 2 none 2 32 25 4160 [.ref a] (w0 ++ (a, .inr (0, [.null, .int 0, .int 0])) :: []) (fun v w9 => v = none ∧ ∃ (q : Nat → Nat) (f : Nat → Option Nat), (∀ j, j < 8 → f j = some (q (1 + 3 * j))) ∧ w9 = w0 ++ (a, .inr (0, [.ref (q 0), .int (nI 0), .int (nI 0)])) :: [(q 0, .inl (E.2.2.2.1 5, 8, .inr (.inr (.inr (.inr f))))), (q 1, .inr (1, [.int (nI 8), .int (nI 8), .int (nI 4), .int (nI 2), .int (nI 0), .ref (q 2), .ref (q 3)])), (q 2, .inl (E.2.2.2.1 0, 256, .inl (fun _ => 0))), (q 3, .inl (E.2.2.2.1 0, 256, .inl (fun _ => 0))), (q 4, .inr (1, [.int (nI 8), .int (nI 8), .int (nI 4), .int (nI 2), .int (nI 0), .ref (q 5), .ref (q 6)])), (q 5, .inl (E.2.2.2.1 0, 256, .inl (fun _ => 0))), (q 6, .inl (E.2.2.2.1 0, 256, .inl (fun _ => 0))), (q 7, .inr (1, [.int (nI 8), .int (nI 8), .int (nI 4), .int (nI 2), .int (nI 0), .ref (q 8), .ref (q 9)])), (q 8, .inl (E.2.2.2.1 0, 256, .inl (fun _ => 0))), (q 9, .inl (E.2.2.2.1 0, 256, .inl (fun _ => 0))), (q 10, .inr (1, [.int (nI 8), .int (nI 8), .int (nI 4), .int (nI 2), .int (nI 0), .ref (q 11), .ref (q 12)])), (q 11, .inl (E.2.2.2.1 0, 256, .inl (fun _ => 0))), (q 12, .inl (E.2.2.2.1 0, 256, .inl (fun _ => 0))), (q 13, .inr (1, [.int (nI 8), .int (nI 8), .int (nI 4), .int (nI 2), .int (nI 0), .ref (q 14), .ref (q 15)])), (q 14, .inl (E.2.2.2.1 0, 256, .inl (fun _ => 0))), (q 15, .inl (E.2.2.2.1 0, 256, .inl (fun _ => 0))), (q 16, .inr (1, [.int (nI 8), .int (nI 8), .int (nI 4), .int (nI 2), .int (nI 0), .ref (q 17), .ref (q 18)])), (q 17, .inl (E.2.2.2.1 0, 256, .inl (fun _ => 0))), (q 18, .inl (E.2.2.2.1 0, 256, .inl (fun _ => 0))), (q 19, .inr (1, [.int (nI 8), .int (nI 8), .int (nI 4), .int (nI 2), .int (nI 0), .ref (q 20), .ref (q 21)])), (q 20, .inl (E.2.2.2.1 0, 256, .inl (fun _ => 0))), (q 21, .inl (E.2.2.2.1 0, 256, .inl (fun _ => 0))), (q 22, .inr (1, [.int (nI 8), .int (nI 8), .int (nI 4), .int (nI 2), .int (nI 0), .ref (q 23), .ref (q 24)])), (q 23, .inl (E.2.2.2.1 0, 256, .inl (fun _ => 0))), (q 24, .inl (E.2.2.2.1 0, 256, .inl (fun _ => 0)))]) := by
  refine xt_bodyW (by decide +kernel) (xt_all rfl) (Nat.le_of_ble_eq_true rfl) (fun cx C hl9 hn9 => ?_)
  show xt_Yw E cx _ 0 0 0 [some (.ref a), none] [] (w0 ++ (a, .inr (0, [.null, .int 0, .int 0])) :: [])
  refine yv_aload_n C dX0_init_0 rfl ?_
  refine yv_obj C lkX0_3 oi_i oi_c rfl ⟨Nat.le_of_ble_eq_true rfl, Nat.le_of_ble_eq_true rfl⟩ dX0_init_1 ?_
  refine yv_aload_n C dX0_init_4 rfl ?_
  refine yv_bipush (v := nI 8) C dX0_init_5 (by decide) ?_
  refine yv_newq (i := 5) C lkcX0_9 rfl rfl (by decide) (nI_clamp (by decide)) (by decide) ⟨Nat.le_of_ble_eq_true rfl, Nat.le_of_ble_eq_true rfl⟩ dX0_init_7 (fun q0 => ?_)
  rw [yo_app]
  refine yo_putF (f := 0) (fs' := [.ref q0, .int 0, .int 0]) C hn9 xt_u0 rfl (by decide) tyX0 tyX0_ok nmX0 lkX0_11 rfl rfl (tyX0_ok 0 (by decide)) rfl rfl (Nat.le_of_ble_eq_true rfl) rfl dX0_init_10 ?_
  refine yv_iconst (v := nI 0) C dX0_init_13 rfl ?_
  refine yv_istore_n C dX0_init_14 (Nat.le_of_ble_eq_true rfl) rfl rfl ?_
  refine yv_iload_n C dX0_init_15 rfl ?_
  refine yv_aload_n C dX0_init_16 rfl ?_
  refine yv_get (f := 0) C xt_u0 rfl w0.length xt_wget (by decide) lkX0_11 rfl dX0_init_17 ?_
  refine yv_alen (v := nI 8) (t0 := 5) C (w0.length + 1 + 0) (xt_wge rfl) rfl rfl dX0_init_20 ?_
  refine yv_icmp_ge (tgt := 43) C dX0_init_21 (by decide) (fun c9 => ?_) (fun c9 => ?_)
  · exact absurd c9 (by decide)
  refine yv_aload_n C dX0_init_24 rfl ?_
  refine yv_get (f := 0) C xt_u0 rfl w0.length xt_wget (by decide) lkX0_11 rfl dX0_init_25 ?_
  refine yv_iload_n C dX0_init_28 rfl ?_
  refine yv_new (ci := 1) (fs := [.int 0, .int 0, .int 0, .int 0, .int 0, .null, .null]) C xt_u1 tyX1 tyX1_ok lkcX0_9 it_X1 ii_X1 rfl df_X1 ⟨Nat.le_of_ble_eq_true rfl, Nat.le_of_ble_eq_true rfl⟩ dX0_init_29 (fun q1 => ?_)
  refine yv_dup C dX0_init_32 rfl ?_
  refine yv_ctorN C mi_X1 rfl lkX0_17 (cn_X1 _ q1) ⟨Nat.le_of_ble_eq_true rfl, Nat.le_of_ble_eq_true rfl, Nat.le_of_ble_eq_true rfl, Nat.le_of_ble_eq_true rfl⟩ rfl (Nat.le_of_ble_eq_true rfl) dX0_init_33 (fun v9 w9 h9 => ?_)
  obtain ⟨rfl, q2, q3, rfl⟩ := h9
  rw [yo_app]
  show xt_Yw E cx _ _ _ _ _ [.ref q1, .int (nI 0), .ref q0] _
  refine yv_aast (T := TX1) (M := 7) C (w0.length + 1 + 0) (w0.length + 1 + 1) (xt_wge rfl) (xt_wge rfl) rfl (vp_in_nI (by decide) (by decide)) xt_wse dX0_init_36 ?_
  rw [nI_clamp (by decide)]
  refine yv_iinc (v := nI 1) C dX0_init_37 rfl (by decide) rfl rfl ?_
  refine yv_goto (tgt := 15) C dX0_init_40 (by decide) ?_
  refine yv_iload_n C dX0_init_15 rfl ?_
  refine yv_aload_n C dX0_init_16 rfl ?_
  refine yv_get (f := 0) C xt_u0 rfl w0.length xt_wget (by decide) lkX0_11 rfl dX0_init_17 ?_
  refine yv_alen (v := nI 8) (t0 := 5) C (w0.length + 1 + 0) (xt_wge rfl) rfl rfl dX0_init_20 ?_
  refine yv_icmp_ge (tgt := 43) C dX0_init_21 (by decide) (fun c9 => ?_) (fun c9 => ?_)
  · exact absurd c9 (by decide)
  refine yv_aload_n C dX0_init_24 rfl ?_
  refine yv_get (f := 0) C xt_u0 rfl w0.length xt_wget (by decide) lkX0_11 rfl dX0_init_25 ?_
  refine yv_iload_n C dX0_init_28 rfl ?_
  refine yv_new (ci := 1) (fs := [.int 0, .int 0, .int 0, .int 0, .int 0, .null, .null]) C xt_u1 tyX1 tyX1_ok lkcX0_9 it_X1 ii_X1 rfl df_X1 ⟨Nat.le_of_ble_eq_true rfl, Nat.le_of_ble_eq_true rfl⟩ dX0_init_29 (fun q4 => ?_)
  refine yv_dup C dX0_init_32 rfl ?_
  refine yv_ctorN C mi_X1 rfl lkX0_17 (cn_X1 _ q4) ⟨Nat.le_of_ble_eq_true rfl, Nat.le_of_ble_eq_true rfl, Nat.le_of_ble_eq_true rfl, Nat.le_of_ble_eq_true rfl⟩ rfl (Nat.le_of_ble_eq_true rfl) dX0_init_33 (fun v9 w9 h9 => ?_)
  obtain ⟨rfl, q5, q6, rfl⟩ := h9
  rw [yo_app]
  show xt_Yw E cx _ _ _ _ _ [.ref q4, .int (nI 1), .ref q0] _
  refine yv_aast (T := TX1) (M := 7) C (w0.length + 1 + 0) (w0.length + 1 + 4) (xt_wge rfl) (xt_wge rfl) rfl (vp_in_nI (by decide) (by decide)) xt_wse dX0_init_36 ?_
  rw [nI_clamp (by decide)]
  refine yv_iinc (v := nI 2) C dX0_init_37 rfl (by decide) rfl rfl ?_
  refine yv_goto (tgt := 15) C dX0_init_40 (by decide) ?_
  refine yv_iload_n C dX0_init_15 rfl ?_
  refine yv_aload_n C dX0_init_16 rfl ?_
  refine yv_get (f := 0) C xt_u0 rfl w0.length xt_wget (by decide) lkX0_11 rfl dX0_init_17 ?_
  refine yv_alen (v := nI 8) (t0 := 5) C (w0.length + 1 + 0) (xt_wge rfl) rfl rfl dX0_init_20 ?_
  refine yv_icmp_ge (tgt := 43) C dX0_init_21 (by decide) (fun c9 => ?_) (fun c9 => ?_)
  · exact absurd c9 (by decide)
  refine yv_aload_n C dX0_init_24 rfl ?_
  refine yv_get (f := 0) C xt_u0 rfl w0.length xt_wget (by decide) lkX0_11 rfl dX0_init_25 ?_
  refine yv_iload_n C dX0_init_28 rfl ?_
  refine yv_new (ci := 1) (fs := [.int 0, .int 0, .int 0, .int 0, .int 0, .null, .null]) C xt_u1 tyX1 tyX1_ok lkcX0_9 it_X1 ii_X1 rfl df_X1 ⟨Nat.le_of_ble_eq_true rfl, Nat.le_of_ble_eq_true rfl⟩ dX0_init_29 (fun q7 => ?_)
  refine yv_dup C dX0_init_32 rfl ?_
  refine yv_ctorN C mi_X1 rfl lkX0_17 (cn_X1 _ q7) ⟨Nat.le_of_ble_eq_true rfl, Nat.le_of_ble_eq_true rfl, Nat.le_of_ble_eq_true rfl, Nat.le_of_ble_eq_true rfl⟩ rfl (Nat.le_of_ble_eq_true rfl) dX0_init_33 (fun v9 w9 h9 => ?_)
  obtain ⟨rfl, q8, q9, rfl⟩ := h9
  rw [yo_app]
  show xt_Yw E cx _ _ _ _ _ [.ref q7, .int (nI 2), .ref q0] _
  refine yv_aast (T := TX1) (M := 7) C (w0.length + 1 + 0) (w0.length + 1 + 7) (xt_wge rfl) (xt_wge rfl) rfl (vp_in_nI (by decide) (by decide)) xt_wse dX0_init_36 ?_
  rw [nI_clamp (by decide)]
  refine yv_iinc (v := nI 3) C dX0_init_37 rfl (by decide) rfl rfl ?_
  refine yv_goto (tgt := 15) C dX0_init_40 (by decide) ?_
  refine yv_iload_n C dX0_init_15 rfl ?_
  refine yv_aload_n C dX0_init_16 rfl ?_
  refine yv_get (f := 0) C xt_u0 rfl w0.length xt_wget (by decide) lkX0_11 rfl dX0_init_17 ?_
  refine yv_alen (v := nI 8) (t0 := 5) C (w0.length + 1 + 0) (xt_wge rfl) rfl rfl dX0_init_20 ?_
  refine yv_icmp_ge (tgt := 43) C dX0_init_21 (by decide) (fun c9 => ?_) (fun c9 => ?_)
  · exact absurd c9 (by decide)
  refine yv_aload_n C dX0_init_24 rfl ?_
  refine yv_get (f := 0) C xt_u0 rfl w0.length xt_wget (by decide) lkX0_11 rfl dX0_init_25 ?_
  refine yv_iload_n C dX0_init_28 rfl ?_
  refine yv_new (ci := 1) (fs := [.int 0, .int 0, .int 0, .int 0, .int 0, .null, .null]) C xt_u1 tyX1 tyX1_ok lkcX0_9 it_X1 ii_X1 rfl df_X1 ⟨Nat.le_of_ble_eq_true rfl, Nat.le_of_ble_eq_true rfl⟩ dX0_init_29 (fun q10 => ?_)
  refine yv_dup C dX0_init_32 rfl ?_
  refine yv_ctorN C mi_X1 rfl lkX0_17 (cn_X1 _ q10) ⟨Nat.le_of_ble_eq_true rfl, Nat.le_of_ble_eq_true rfl, Nat.le_of_ble_eq_true rfl, Nat.le_of_ble_eq_true rfl⟩ rfl (Nat.le_of_ble_eq_true rfl) dX0_init_33 (fun v9 w9 h9 => ?_)
  obtain ⟨rfl, q11, q12, rfl⟩ := h9
  rw [yo_app]
  show xt_Yw E cx _ _ _ _ _ [.ref q10, .int (nI 3), .ref q0] _
  refine yv_aast (T := TX1) (M := 7) C (w0.length + 1 + 0) (w0.length + 1 + 10) (xt_wge rfl) (xt_wge rfl) rfl (vp_in_nI (by decide) (by decide)) xt_wse dX0_init_36 ?_
  rw [nI_clamp (by decide)]
  refine yv_iinc (v := nI 4) C dX0_init_37 rfl (by decide) rfl rfl ?_
  refine yv_goto (tgt := 15) C dX0_init_40 (by decide) ?_
  refine yv_iload_n C dX0_init_15 rfl ?_
  refine yv_aload_n C dX0_init_16 rfl ?_
  refine yv_get (f := 0) C xt_u0 rfl w0.length xt_wget (by decide) lkX0_11 rfl dX0_init_17 ?_
  refine yv_alen (v := nI 8) (t0 := 5) C (w0.length + 1 + 0) (xt_wge rfl) rfl rfl dX0_init_20 ?_
  refine yv_icmp_ge (tgt := 43) C dX0_init_21 (by decide) (fun c9 => ?_) (fun c9 => ?_)
  · exact absurd c9 (by decide)
  refine yv_aload_n C dX0_init_24 rfl ?_
  refine yv_get (f := 0) C xt_u0 rfl w0.length xt_wget (by decide) lkX0_11 rfl dX0_init_25 ?_
  refine yv_iload_n C dX0_init_28 rfl ?_
  refine yv_new (ci := 1) (fs := [.int 0, .int 0, .int 0, .int 0, .int 0, .null, .null]) C xt_u1 tyX1 tyX1_ok lkcX0_9 it_X1 ii_X1 rfl df_X1 ⟨Nat.le_of_ble_eq_true rfl, Nat.le_of_ble_eq_true rfl⟩ dX0_init_29 (fun q13 => ?_)
  refine yv_dup C dX0_init_32 rfl ?_
  refine yv_ctorN C mi_X1 rfl lkX0_17 (cn_X1 _ q13) ⟨Nat.le_of_ble_eq_true rfl, Nat.le_of_ble_eq_true rfl, Nat.le_of_ble_eq_true rfl, Nat.le_of_ble_eq_true rfl⟩ rfl (Nat.le_of_ble_eq_true rfl) dX0_init_33 (fun v9 w9 h9 => ?_)
  obtain ⟨rfl, q14, q15, rfl⟩ := h9
  rw [yo_app]
  show xt_Yw E cx _ _ _ _ _ [.ref q13, .int (nI 4), .ref q0] _
  refine yv_aast (T := TX1) (M := 7) C (w0.length + 1 + 0) (w0.length + 1 + 13) (xt_wge rfl) (xt_wge rfl) rfl (vp_in_nI (by decide) (by decide)) xt_wse dX0_init_36 ?_
  rw [nI_clamp (by decide)]
  refine yv_iinc (v := nI 5) C dX0_init_37 rfl (by decide) rfl rfl ?_
  refine yv_goto (tgt := 15) C dX0_init_40 (by decide) ?_
  refine yv_iload_n C dX0_init_15 rfl ?_
  refine yv_aload_n C dX0_init_16 rfl ?_
  refine yv_get (f := 0) C xt_u0 rfl w0.length xt_wget (by decide) lkX0_11 rfl dX0_init_17 ?_
  refine yv_alen (v := nI 8) (t0 := 5) C (w0.length + 1 + 0) (xt_wge rfl) rfl rfl dX0_init_20 ?_
  refine yv_icmp_ge (tgt := 43) C dX0_init_21 (by decide) (fun c9 => ?_) (fun c9 => ?_)
  · exact absurd c9 (by decide)
  refine yv_aload_n C dX0_init_24 rfl ?_
  refine yv_get (f := 0) C xt_u0 rfl w0.length xt_wget (by decide) lkX0_11 rfl dX0_init_25 ?_
  refine yv_iload_n C dX0_init_28 rfl ?_
  refine yv_new (ci := 1) (fs := [.int 0, .int 0, .int 0, .int 0, .int 0, .null, .null]) C xt_u1 tyX1 tyX1_ok lkcX0_9 it_X1 ii_X1 rfl df_X1 ⟨Nat.le_of_ble_eq_true rfl, Nat.le_of_ble_eq_true rfl⟩ dX0_init_29 (fun q16 => ?_)
  refine yv_dup C dX0_init_32 rfl ?_
  refine yv_ctorN C mi_X1 rfl lkX0_17 (cn_X1 _ q16) ⟨Nat.le_of_ble_eq_true rfl, Nat.le_of_ble_eq_true rfl, Nat.le_of_ble_eq_true rfl, Nat.le_of_ble_eq_true rfl⟩ rfl (Nat.le_of_ble_eq_true rfl) dX0_init_33 (fun v9 w9 h9 => ?_)
  obtain ⟨rfl, q17, q18, rfl⟩ := h9
  rw [yo_app]
  show xt_Yw E cx _ _ _ _ _ [.ref q16, .int (nI 5), .ref q0] _
  refine yv_aast (T := TX1) (M := 7) C (w0.length + 1 + 0) (w0.length + 1 + 16) (xt_wge rfl) (xt_wge rfl) rfl (vp_in_nI (by decide) (by decide)) xt_wse dX0_init_36 ?_
  rw [nI_clamp (by decide)]
  refine yv_iinc (v := nI 6) C dX0_init_37 rfl (by decide) rfl rfl ?_
  refine yv_goto (tgt := 15) C dX0_init_40 (by decide) ?_
  refine yv_iload_n C dX0_init_15 rfl ?_
  refine yv_aload_n C dX0_init_16 rfl ?_
  refine yv_get (f := 0) C xt_u0 rfl w0.length xt_wget (by decide) lkX0_11 rfl dX0_init_17 ?_
  refine yv_alen (v := nI 8) (t0 := 5) C (w0.length + 1 + 0) (xt_wge rfl) rfl rfl dX0_init_20 ?_
  refine yv_icmp_ge (tgt := 43) C dX0_init_21 (by decide) (fun c9 => ?_) (fun c9 => ?_)
  · exact absurd c9 (by decide)
  refine yv_aload_n C dX0_init_24 rfl ?_
  refine yv_get (f := 0) C xt_u0 rfl w0.length xt_wget (by decide) lkX0_11 rfl dX0_init_25 ?_
  refine yv_iload_n C dX0_init_28 rfl ?_
  refine yv_new (ci := 1) (fs := [.int 0, .int 0, .int 0, .int 0, .int 0, .null, .null]) C xt_u1 tyX1 tyX1_ok lkcX0_9 it_X1 ii_X1 rfl df_X1 ⟨Nat.le_of_ble_eq_true rfl, Nat.le_of_ble_eq_true rfl⟩ dX0_init_29 (fun q19 => ?_)
  refine yv_dup C dX0_init_32 rfl ?_
  refine yv_ctorN C mi_X1 rfl lkX0_17 (cn_X1 _ q19) ⟨Nat.le_of_ble_eq_true rfl, Nat.le_of_ble_eq_true rfl, Nat.le_of_ble_eq_true rfl, Nat.le_of_ble_eq_true rfl⟩ rfl (Nat.le_of_ble_eq_true rfl) dX0_init_33 (fun v9 w9 h9 => ?_)
  obtain ⟨rfl, q20, q21, rfl⟩ := h9
  rw [yo_app]
  show xt_Yw E cx _ _ _ _ _ [.ref q19, .int (nI 6), .ref q0] _
  refine yv_aast (T := TX1) (M := 7) C (w0.length + 1 + 0) (w0.length + 1 + 19) (xt_wge rfl) (xt_wge rfl) rfl (vp_in_nI (by decide) (by decide)) xt_wse dX0_init_36 ?_
  rw [nI_clamp (by decide)]
  refine yv_iinc (v := nI 7) C dX0_init_37 rfl (by decide) rfl rfl ?_
  refine yv_goto (tgt := 15) C dX0_init_40 (by decide) ?_
  refine yv_iload_n C dX0_init_15 rfl ?_
  refine yv_aload_n C dX0_init_16 rfl ?_
  refine yv_get (f := 0) C xt_u0 rfl w0.length xt_wget (by decide) lkX0_11 rfl dX0_init_17 ?_
  refine yv_alen (v := nI 8) (t0 := 5) C (w0.length + 1 + 0) (xt_wge rfl) rfl rfl dX0_init_20 ?_
  refine yv_icmp_ge (tgt := 43) C dX0_init_21 (by decide) (fun c9 => ?_) (fun c9 => ?_)
  · exact absurd c9 (by decide)
  refine yv_aload_n C dX0_init_24 rfl ?_
  refine yv_get (f := 0) C xt_u0 rfl w0.length xt_wget (by decide) lkX0_11 rfl dX0_init_25 ?_
  refine yv_iload_n C dX0_init_28 rfl ?_
  refine yv_new (ci := 1) (fs := [.int 0, .int 0, .int 0, .int 0, .int 0, .null, .null]) C xt_u1 tyX1 tyX1_ok lkcX0_9 it_X1 ii_X1 rfl df_X1 ⟨Nat.le_of_ble_eq_true rfl, Nat.le_of_ble_eq_true rfl⟩ dX0_init_29 (fun q22 => ?_)
  refine yv_dup C dX0_init_32 rfl ?_
  refine yv_ctorN C mi_X1 rfl lkX0_17 (cn_X1 _ q22) ⟨Nat.le_of_ble_eq_true rfl, Nat.le_of_ble_eq_true rfl, Nat.le_of_ble_eq_true rfl, Nat.le_of_ble_eq_true rfl⟩ rfl (Nat.le_of_ble_eq_true rfl) dX0_init_33 (fun v9 w9 h9 => ?_)
  obtain ⟨rfl, q23, q24, rfl⟩ := h9
  rw [yo_app]
  show xt_Yw E cx _ _ _ _ _ [.ref q22, .int (nI 7), .ref q0] _
  refine yv_aast (T := TX1) (M := 7) C (w0.length + 1 + 0) (w0.length + 1 + 22) (xt_wge rfl) (xt_wge rfl) rfl (vp_in_nI (by decide) (by decide)) xt_wse dX0_init_36 ?_
  rw [nI_clamp (by decide)]
  refine yv_iinc (v := nI 8) C dX0_init_37 rfl (by decide) rfl rfl ?_
  refine yv_goto (tgt := 15) C dX0_init_40 (by decide) ?_
  refine yv_iload_n C dX0_init_15 rfl ?_
  refine yv_aload_n C dX0_init_16 rfl ?_
  refine yv_get (f := 0) C xt_u0 rfl w0.length xt_wget (by decide) lkX0_11 rfl dX0_init_17 ?_
  refine yv_alen (v := nI 8) (t0 := 5) C (w0.length + 1 + 0) (xt_wge rfl) rfl rfl dX0_init_20 ?_
  refine yv_icmp_ge (tgt := 43) C dX0_init_21 (by decide) (fun c9 => ?_) (fun c9 => ?_)
  rotate_left
  · exact absurd (by decide) c9
  refine yv_aload_n C dX0_init_43 rfl ?_
  refine yv_iconst (v := nI 0) C dX0_init_44 rfl ?_
  refine yo_put (f := 1) (fs' := [.ref q0, .int (nI 0), .int 0]) C xt_u0 rfl (by decide) tyX0 tyX0_ok nmX0 lkX0_18 rfl (tyX0_ok 1 (by decide)) rfl rfl (Nat.le_of_ble_eq_true rfl) rfl dX0_init_45 ?_
  refine yv_aload_n C dX0_init_48 rfl ?_
  refine yv_iconst (v := nI 0) C dX0_init_49 rfl ?_
  refine yo_put (f := 2) (fs' := [.ref q0, .int (nI 0), .int (nI 0)]) C xt_u0 rfl (by decide) tyX0 tyX0_ok nmX0 lkX0_22 rfl (tyX0_ok 2 (by decide)) rfl rfl (Nat.le_of_ble_eq_true rfl) rfl dX0_init_50 ?_
  exact yv_vret C dX0_init_53 ⟨Nat.le_of_ble_eq_true rfl, Nat.le_of_ble_eq_true rfl⟩ ⟨rfl, fun i => [q0, q1, q2, q3, q4, q5, q6, q7, q8, q9, q10, q11, q12, q13, q14, q15, q16, q17, q18, q19, q20, q21, q22, q23, q24].getD i 0, _, xt_row8 (q := fun i => [q0, q1, q2, q3, q4, q5, q6, q7, q8, q9, q10, q11, q12, q13, q14, q15, q16, q17, q18, q19, q20, q21, q22, q23, q24].getD i 0) rfl rfl rfl rfl rfl rfl rfl rfl, rfl⟩
end XN2
