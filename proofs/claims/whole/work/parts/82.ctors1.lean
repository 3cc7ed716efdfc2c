section XN2

/-- a constructor's call by a nest mate -/
theorem yv_ctorN {E : xt_Ev} {cx : xt_Cx} {Z : State → Prop} {k n pc nL : Nat} {lo : List (Option Value)} {st : List Value} {w : va_W} {own : String} {cc : ByteArray} {ret : Option FieldType} {rm : Room} (C : xt_Ok0 own cc nL ret rm E cx) {y : MethodName} {cy : ByteArray} {ny fr lw k1 n1 index a : Nat} {host : String} {Q : Option Value → va_W → Prop} (hm : Cond.code y cy ny none ∈ xt_T ∧ Cond.instanceMethod y ∈ xt_T ∧ Cond.initialized y.cls ∈ xt_T ∧ (y.cls ≠ "java/lang/invoke/MethodHandle" ∧ y.cls ≠ "java/lang/invoke/VarHandle") ∧ (parseMethodDescriptor y.desc).map (fun d => d.parameters.length) = some 0) (hy : y.name = "<init>") (hlk : Cond.methodLinkNest own index y host ∈ xt_nw) (hct : xt_Cw E cx.2.1 y cy ny none fr lw k1 n1 [.ref a] w Q)
    (hr : fr + 1 ≤ rm.frames ∧ 8 + (ny + 11) + lw ≤ rm.locals ∧ k + k1 ≤ rm.cells ∧ n + n1 ≤ rm.slots) (hlo : lo.length = nL) (hw : (st.map fun v => v.category).sum ≤ 8) (d : decode cc pc = .ok (.invokespecial index, 3)) (kk : ∀ v w', Q v w' → xt_Yw E cx Z (k + k1) (n + n1) (pc + 3) lo (v.toList ++ st) w') : xt_Yw E cx Z k n pc lo (.ref a :: st) w := by
  intro H locs ls h1 hD h2 h3
  obtain ⟨hx, hb, hml, hown, hts, hK, hR, -⟩ := C
  subst hR
  have hrun := va_runIN (e := cx.2.2.1) (below := cx.2.2.2.2.2.2.2.1) (meth := cx.2.2.2.2.2.2.2.2.1) (c := cx.2.2.2.2.2.2.2.2.2) (locs := locs) (H := H) (cells := k) (slots := n) (Ts := xt_T) (As := []) (rest := st) (g := F0 cx.2.2.2.2.2.1 pc ls (.ref a :: st)) ⟨hx, hb, hml, hown, hts⟩ hct ⟨⟨⟨rfl, rfl, hr.1, hr.2.1, xt_good hts hm.1, List.mem_cons_self⟩, hts _ hm.1, hts _ hm.2.2.1, hm.2.2.2.1, fun sig h => (Option.some.inj (by have h9 := hm.2.2.2.2; rw [h] at h9; exact h9)).symm, va_Nw.use rfl (hK.1.1.2.1 _ hlk)⟩, hy, hts _ hm.2.1⟩ ⟨xt_blindW, fun U hU hW => ⟨rfl, by rw [hU]; exact h1, hD, xt_K0_warm hW h2 hU hK.1, by rw [hU]; exact Nat.le_trans hK.2 h2.1⟩⟩ rfl rfl (h3.1.trans hlo) rfl (lv_room hw) d ⟨hr.2.2.1, hr.2.2.2⟩
  intro T9 hT X9
  obtain ⟨v, st₀, t, T', L, h0, X', hL, e1, e2, ⟨⟨v', w', hv, hq, hP1, hD1⟩, hz, hk⟩, hst⟩ := hrun T9 hT X9
  cases hv
  rw [h0] at hz hk
  obtain ⟨t2, a1, b1⟩ := kk v w' hq T'.heap (locs ++ L) ls (by rw [e1]; exact hP1) hD1
    ⟨Nat.le_trans h2.1 (by rw [e1]; exact hz), fun q g1 g2 => by rw [e1, hk q (Nat.lt_of_lt_of_le g1 h2.1) g2]; exact h2.2.1 q g1 g2, fun q hq => by
      rcases List.mem_append.mp hq with h | h
      · exact h2.2.2 q h
      · exact hL q h⟩ h3 T' rfl X'
  exact ⟨t2, hst t2 a1, b1⟩
theorem df_X0 : ∀ j, j < 3 → defaultValue (tyX0 j) = vp_V [.null, .int 0, .int 0] j := by decide
theorem df_X1 : ∀ j, j < 7 → defaultValue (tyX1 j) = vp_V [.int 0, .int 0, .int 0, .int 0, .int 0, .null, .null] j := by decide
theorem df_X2 : ∀ j, j < 4 → defaultValue (tyX2 j) = vp_V [.int 0, .null, .null, .null] j := by decide
theorem df_X3 : ∀ j, j < 4 → defaultValue (tyX3 j) = vp_V [.null, .int 0, .null, .int 0] j := by decide
theorem df_X4 : ∀ j, j < 14 → defaultValue (tyX4 j) = vp_V [.int 0, .int 0, .int 0, .int 0, .int 0, .int 0, .null, .null, .null, .null, .null, .null, .null, .null] j := by decide
theorem df_X5 : ∀ j, j < 10 → defaultValue (tyX5 j) = vp_V [.null, .null, .int 0, .null, .null, .null, .null, .int 0, .int 0, .int 0] j := by decide
theorem df_X6 : ∀ j, j < 29 → defaultValue (tyX6 j) = vp_V [.int 0, .null, .null, .int 0, .null, .int 0, .null, .null, .int 0, .int 0, .int 0, .int 0, .int 0, .int 0, .null, .null, .int 0, .int 0, .int 0, .null, .null, .null, .null, .null, .null, .null, .null, .null, .null] j := by decide
variable {E : xt_Ev} {l : Launch}
set_option maxRecDepth 20000 in
set_option maxHeartbeats 4000000 in
theorem cn_X1 (w0 : va_W) (a : Nat) : xt_Cw E l yX1_init cX1_init 1 none 1 12 2 512 [.ref a] (w0 ++ (a, .inr (1, [.int 0, .int 0, .int 0, .int 0, .int 0, .null, .null])) :: []) (fun v w9 => v = none ∧ ∃ q1 q2 : Nat, w9 = w0 ++ (a, .inr (1, [.int (nI 8), .int (nI 8), .int (nI 4), .int (nI 2), .int (nI 0), .ref q1, .ref q2])) :: [(q1, .inl (E.2.2.2.1 0, 256, .inl (fun _ => 0))), (q2, .inl (E.2.2.2.1 0, 256, .inl (fun _ => 0)))]) := by
  refine xt_bodyW (by decide +kernel) (xt_all rfl) (Nat.le_of_ble_eq_true rfl) (fun cx C hl9 hn9 => ?_)
  show xt_Yw E cx _ 0 0 0 [some (.ref a)] [] (w0 ++ (a, .inr (1, [.int 0, .int 0, .int 0, .int 0, .int 0, .null, .null])) :: [])
  refine yv_aload_n C dX1_init_0 rfl ?_
  refine yv_obj C lkX1_3 oi_i oi_c rfl ⟨Nat.le_of_ble_eq_true rfl, Nat.le_of_ble_eq_true rfl⟩ dX1_init_1 ?_
  refine yv_aload_n C dX1_init_4 rfl ?_
  refine yv_bipush (v := nI 8) C dX1_init_5 (by decide) ?_
  refine yo_put (f := 0) (fs' := [.int (nI 8), .int 0, .int 0, .int 0, .int 0, .null, .null]) C xt_u1 rfl (by decide) tyX1 tyX1_ok nmX1 lkX1_9 rfl (tyX1_ok 0 (by decide)) rfl rfl (Nat.le_of_ble_eq_true rfl) rfl dX1_init_7 ?_
  refine yv_aload_n C dX1_init_10 rfl ?_
  refine yv_bipush (v := nI 8) C dX1_init_11 (by decide) ?_
  refine yo_put (f := 1) (fs' := [.int (nI 8), .int (nI 8), .int 0, .int 0, .int 0, .null, .null]) C xt_u1 rfl (by decide) tyX1 tyX1_ok nmX1 lkX1_15 rfl (tyX1_ok 1 (by decide)) rfl rfl (Nat.le_of_ble_eq_true rfl) rfl dX1_init_13 ?_
  refine yv_aload_n C dX1_init_16 rfl ?_
  refine yv_iconst (v := nI 4) C dX1_init_17 rfl ?_
  refine yo_put (f := 2) (fs' := [.int (nI 8), .int (nI 8), .int (nI 4), .int 0, .int 0, .null, .null]) C xt_u1 rfl (by decide) tyX1 tyX1_ok nmX1 lkX1_18 rfl (tyX1_ok 2 (by decide)) rfl rfl (Nat.le_of_ble_eq_true rfl) rfl dX1_init_18 ?_
  refine yv_aload_n C dX1_init_21 rfl ?_
  refine yv_iconst (v := nI 2) C dX1_init_22 rfl ?_
  refine yo_put (f := 3) (fs' := [.int (nI 8), .int (nI 8), .int (nI 4), .int (nI 2), .int 0, .null, .null]) C xt_u1 rfl (by decide) tyX1 tyX1_ok nmX1 lkX1_21 rfl (tyX1_ok 3 (by decide)) rfl rfl (Nat.le_of_ble_eq_true rfl) rfl dX1_init_23 ?_
  refine yv_aload_n C dX1_init_26 rfl ?_
  refine yv_iconst (v := nI 0) C dX1_init_27 rfl ?_
  refine yo_put (f := 4) (fs' := [.int (nI 8), .int (nI 8), .int (nI 4), .int (nI 2), .int (nI 0), .null, .null]) C xt_u1 rfl (by decide) tyX1 tyX1_ok nmX1 lkX1_24 rfl (tyX1_ok 4 (by decide)) rfl rfl (Nat.le_of_ble_eq_true rfl) rfl dX1_init_28 ?_
  refine yv_aload_n C dX1_init_31 rfl ?_
  refine yv_sipush (v := nI 256) C dX1_init_32 (by decide) ?_
  refine yv_newa (atype := .int) (i := 0) (a0 := (256, .inl (fun _ => 0))) C ac_int rfl rfl (fun _ => rfl) (by decide) (nI_clamp (by decide)) (by decide) ⟨Nat.le_of_ble_eq_true rfl, Nat.le_of_ble_eq_true rfl⟩ dX1_init_35 (fun q0 => ?_)
  rw [yo_app]
  refine yo_putF (f := 5) (fs' := [.int (nI 8), .int (nI 8), .int (nI 4), .int (nI 2), .int (nI 0), .ref q0, .null]) C hn9 xt_u1 rfl (by decide) tyX1 tyX1_ok nmX1 lkX1_27 rfl rfl (tyX1_ok 5 (by decide)) rfl rfl (Nat.le_of_ble_eq_true rfl) rfl dX1_init_37 ?_
  refine yv_aload_n C dX1_init_40 rfl ?_
  refine yv_sipush (v := nI 256) C dX1_init_41 (by decide) ?_
  refine yv_newa (atype := .int) (i := 0) (a0 := (256, .inl (fun _ => 0))) C ac_int rfl rfl (fun _ => rfl) (by decide) (nI_clamp (by decide)) (by decide) ⟨Nat.le_of_ble_eq_true rfl, Nat.le_of_ble_eq_true rfl⟩ dX1_init_44 (fun q1 => ?_)
  rw [yo_app]
  refine yo_putF (f := 6) (fs' := [.int (nI 8), .int (nI 8), .int (nI 4), .int (nI 2), .int (nI 0), .ref q0, .ref q1]) C hn9 xt_u1 rfl (by decide) tyX1 tyX1_ok nmX1 lkX1_31 rfl rfl (tyX1_ok 6 (by decide)) rfl rfl (Nat.le_of_ble_eq_true rfl) rfl dX1_init_46 ?_
  exact yv_vret C dX1_init_49 ⟨Nat.le_of_ble_eq_true rfl, Nat.le_of_ble_eq_true rfl⟩ ⟨rfl, q0, q1, rfl⟩
set_option maxRecDepth 20000 in
set_option maxHeartbeats 4000000 in
theorem cn_X2 (w0 : va_W) (a : Nat) : xt_Cw E l yX2_init cX2_init 1 none 1 12 3 192 [.ref a] (w0 ++ (a, .inr (2, [.int 0, .null, .null, .null])) :: []) (fun v w9 => v = none ∧ ∃ q1 q2 q3 : Nat, w9 = w0 ++ (a, .inr (2, [.int (-1), .ref q1, .ref q2, .ref q3])) :: [(q1, .inl (E.2.2.2.1 0, 64, .inl (fun _ => 0))), (q2, .inl (E.2.2.2.1 0, 64, .inl (fun _ => 0))), (q3, .inl (E.2.2.2.1 0, 64, .inl (fun _ => 0)))]) := by
  refine xt_bodyW (by decide +kernel) (xt_all rfl) (Nat.le_of_ble_eq_true rfl) (fun cx C hl9 hn9 => ?_)
  show xt_Yw E cx _ 0 0 0 [some (.ref a)] [] (w0 ++ (a, .inr (2, [.int 0, .null, .null, .null])) :: [])
  refine yv_aload_n C dX2_init_0 rfl ?_
  refine yv_obj C lkX2_3 oi_i oi_c rfl ⟨Nat.le_of_ble_eq_true rfl, Nat.le_of_ble_eq_true rfl⟩ dX2_init_1 ?_
  refine yv_aload_n C dX2_init_4 rfl ?_
  refine yv_iconst (v := (-1)) C dX2_init_5 rfl ?_
  refine yo_put (f := 0) (fs' := [.int ((-1)), .null, .null, .null]) C xt_u2 rfl (by decide) tyX2 tyX2_ok nmX2 lkX2_9 rfl (tyX2_ok 0 (by decide)) rfl rfl (Nat.le_of_ble_eq_true rfl) rfl dX2_init_6 ?_
  refine yv_aload_n C dX2_init_9 rfl ?_
  refine yv_bipush (v := nI 64) C dX2_init_10 (by decide) ?_
  refine yv_newa (atype := .int) (i := 0) (a0 := (64, .inl (fun _ => 0))) C ac_int rfl rfl (fun _ => rfl) (by decide) (nI_clamp (by decide)) (by decide) ⟨Nat.le_of_ble_eq_true rfl, Nat.le_of_ble_eq_true rfl⟩ dX2_init_12 (fun q0 => ?_)
  rw [yo_app]
  refine yo_putF (f := 1) (fs' := [.int ((-1)), .ref q0, .null, .null]) C hn9 xt_u2 rfl (by decide) tyX2 tyX2_ok nmX2 lkX2_15 rfl rfl (tyX2_ok 1 (by decide)) rfl rfl (Nat.le_of_ble_eq_true rfl) rfl dX2_init_14 ?_
  refine yv_aload_n C dX2_init_17 rfl ?_
  refine yv_bipush (v := nI 64) C dX2_init_18 (by decide) ?_
  refine yv_newa (atype := .int) (i := 0) (a0 := (64, .inl (fun _ => 0))) C ac_int rfl rfl (fun _ => rfl) (by decide) (nI_clamp (by decide)) (by decide) ⟨Nat.le_of_ble_eq_true rfl, Nat.le_of_ble_eq_true rfl⟩ dX2_init_20 (fun q1 => ?_)
  rw [yo_app]
  refine yo_putF (f := 2) (fs' := [.int ((-1)), .ref q0, .ref q1, .null]) C hn9 xt_u2 rfl (by decide) tyX2 tyX2_ok nmX2 lkX2_19 rfl rfl (tyX2_ok 2 (by decide)) rfl rfl (Nat.le_of_ble_eq_true rfl) rfl dX2_init_22 ?_
  refine yv_aload_n C dX2_init_25 rfl ?_
  refine yv_bipush (v := nI 64) C dX2_init_26 (by decide) ?_
  refine yv_newa (atype := .int) (i := 0) (a0 := (64, .inl (fun _ => 0))) C ac_int rfl rfl (fun _ => rfl) (by decide) (nI_clamp (by decide)) (by decide) ⟨Nat.le_of_ble_eq_true rfl, Nat.le_of_ble_eq_true rfl⟩ dX2_init_28 (fun q2 => ?_)
  rw [yo_app]
  refine yo_putF (f := 3) (fs' := [.int ((-1)), .ref q0, .ref q1, .ref q2]) C hn9 xt_u2 rfl (by decide) tyX2 tyX2_ok nmX2 lkX2_22 rfl rfl (tyX2_ok 3 (by decide)) rfl rfl (Nat.le_of_ble_eq_true rfl) rfl dX2_init_30 ?_
  exact yv_vret C dX2_init_33 ⟨Nat.le_of_ble_eq_true rfl, Nat.le_of_ble_eq_true rfl⟩ ⟨rfl, q0, q1, q2, rfl⟩
set_option maxRecDepth 20000 in
set_option maxHeartbeats 4000000 in
theorem cn_X3 (w0 : va_W) (a : Nat) : xt_Cw E l yX3_init cX3_init 1 none 1 12 2 80 [.ref a] (w0 ++ (a, .inr (3, [.null, .int 0, .null, .int 0])) :: []) (fun v w9 => v = none ∧ ∃ q1 q2 : Nat, w9 = w0 ++ (a, .inr (3, [.ref q1, .int (nI 0), .ref q2, .int (nI 0)])) :: [(q1, .inl (E.2.2.2.1 3, 60, .inl (fun _ => 0))), (q2, .inl (E.2.2.2.1 0, 20, .inl (fun _ => 0)))]) := by
  refine xt_bodyW (by decide +kernel) (xt_all rfl) (Nat.le_of_ble_eq_true rfl) (fun cx C hl9 hn9 => ?_)
  show xt_Yw E cx _ 0 0 0 [some (.ref a)] [] (w0 ++ (a, .inr (3, [.null, .int 0, .null, .int 0])) :: [])
  refine yv_aload_n C dX3_init_0 rfl ?_
  refine yv_obj C lkX3_3 oi_i oi_c rfl ⟨Nat.le_of_ble_eq_true rfl, Nat.le_of_ble_eq_true rfl⟩ dX3_init_1 ?_
  refine yv_aload_n C dX3_init_4 rfl ?_
  refine yv_bipush (v := nI 60) C dX3_init_5 (by decide) ?_
  refine yv_newa (atype := .char) (i := 3) (a0 := (60, .inl (fun _ => 0))) C ac_char rfl rfl (fun _ => rfl) (by decide) (nI_clamp (by decide)) (by decide) ⟨Nat.le_of_ble_eq_true rfl, Nat.le_of_ble_eq_true rfl⟩ dX3_init_7 (fun q0 => ?_)
  rw [yo_app]
  refine yo_putF (f := 0) (fs' := [.ref q0, .int 0, .null, .int 0]) C hn9 xt_u3 rfl (by decide) tyX3 tyX3_ok nmX3 lkX3_9 rfl rfl (tyX3_ok 0 (by decide)) rfl rfl (Nat.le_of_ble_eq_true rfl) rfl dX3_init_9 ?_
  refine yv_aload_n C dX3_init_12 rfl ?_
  refine yv_iconst (v := nI 0) C dX3_init_13 rfl ?_
  refine yo_put (f := 1) (fs' := [.ref q0, .int (nI 0), .null, .int 0]) C xt_u3 rfl (by decide) tyX3 tyX3_ok nmX3 lkX3_15 rfl (tyX3_ok 1 (by decide)) rfl rfl (Nat.le_of_ble_eq_true rfl) rfl dX3_init_14 ?_
  refine yv_aload_n C dX3_init_17 rfl ?_
  refine yv_bipush (v := nI 20) C dX3_init_18 (by decide) ?_
  refine yv_newa (atype := .int) (i := 0) (a0 := (20, .inl (fun _ => 0))) C ac_int rfl rfl (fun _ => rfl) (by decide) (nI_clamp (by decide)) (by decide) ⟨Nat.le_of_ble_eq_true rfl, Nat.le_of_ble_eq_true rfl⟩ dX3_init_20 (fun q1 => ?_)
  rw [yo_app]
  refine yo_putF (f := 2) (fs' := [.ref q0, .int (nI 0), .ref q1, .int 0]) C hn9 xt_u3 rfl (by decide) tyX3 tyX3_ok nmX3 lkX3_19 rfl rfl (tyX3_ok 2 (by decide)) rfl rfl (Nat.le_of_ble_eq_true rfl) rfl dX3_init_22 ?_
  refine yv_aload_n C dX3_init_25 rfl ?_
  refine yv_iconst (v := nI 0) C dX3_init_26 rfl ?_
  refine yo_put (f := 3) (fs' := [.ref q0, .int (nI 0), .ref q1, .int (nI 0)]) C xt_u3 rfl (by decide) tyX3 tyX3_ok nmX3 lkX3_23 rfl (tyX3_ok 3 (by decide)) rfl rfl (Nat.le_of_ble_eq_true rfl) rfl dX3_init_27 ?_
  exact yv_vret C dX3_init_30 ⟨Nat.le_of_ble_eq_true rfl, Nat.le_of_ble_eq_true rfl⟩ ⟨rfl, q0, q1, rfl⟩
set_option maxRecDepth 20000 in
set_option maxHeartbeats 4000000 in
theorem cn_X4 (w0 : va_W) (a : Nat) : xt_Cw E l yX4_init cX4_init 1 none 1 12 8 456 [.ref a] (w0 ++ (a, .inr (4, [.int 0, .int 0, .int 0, .int 0, .int 0, .int 0, .null, .null, .null, .null, .null, .null, .null, .null])) :: []) (fun v w9 => v = none ∧ ∃ q1 q2 q3 q4 q5 q6 q7 q8 : Nat, w9 = w0 ++ (a, .inr (4, [.int 0, .int 0, .int 0, .int 0, .int 0, .int 0, .ref q1, .ref q2, .ref q3, .ref q4, .ref q5, .ref q6, .ref q7, .ref q8])) :: [(q1, .inl (E.2.2.2.1 0, 64, .inl (fun _ => 0))), (q2, .inl (E.2.2.2.1 0, 64, .inl (fun _ => 0))), (q3, .inl (E.2.2.2.1 0, 64, .inl (fun _ => 0))), (q4, .inl (E.2.2.2.1 0, 64, .inl (fun _ => 0))), (q5, .inl (E.2.2.2.1 0, 64, .inl (fun _ => 0))), (q6, .inl (E.2.2.2.1 0, 64, .inl (fun _ => 0))), (q7, .inl (E.2.2.2.1 0, 64, .inl (fun _ => 0))), (q8, .inl (E.2.2.2.1 0, 8, .inl (fun _ => 0)))]) := by
  refine xt_bodyW (by decide +kernel) (xt_all rfl) (Nat.le_of_ble_eq_true rfl) (fun cx C hl9 hn9 => ?_)
  show xt_Yw E cx _ 0 0 0 [some (.ref a)] [] (w0 ++ (a, .inr (4, [.int 0, .int 0, .int 0, .int 0, .int 0, .int 0, .null, .null, .null, .null, .null, .null, .null, .null])) :: [])
  refine yv_aload_n C dX4_init_0 rfl ?_
  refine yv_obj C lkX4_3 oi_i oi_c rfl ⟨Nat.le_of_ble_eq_true rfl, Nat.le_of_ble_eq_true rfl⟩ dX4_init_1 ?_
  refine yv_aload_n C dX4_init_4 rfl ?_
  refine yv_bipush (v := nI 64) C dX4_init_5 (by decide) ?_
  refine yv_newa (atype := .int) (i := 0) (a0 := (64, .inl (fun _ => 0))) C ac_int rfl rfl (fun _ => rfl) (by decide) (nI_clamp (by decide)) (by decide) ⟨Nat.le_of_ble_eq_true rfl, Nat.le_of_ble_eq_true rfl⟩ dX4_init_7 (fun q0 => ?_)
  rw [yo_app]
  refine yo_putF (f := 6) (fs' := [.int 0, .int 0, .int 0, .int 0, .int 0, .int 0, .ref q0, .null, .null, .null, .null, .null, .null, .null]) C hn9 xt_u4 rfl (by decide) tyX4 tyX4_ok nmX4 lkX4_9 rfl rfl (tyX4_ok 6 (by decide)) rfl rfl (Nat.le_of_ble_eq_true rfl) rfl dX4_init_9 ?_
  refine yv_aload_n C dX4_init_12 rfl ?_
  refine yv_bipush (v := nI 64) C dX4_init_13 (by decide) ?_
  refine yv_newa (atype := .int) (i := 0) (a0 := (64, .inl (fun _ => 0))) C ac_int rfl rfl (fun _ => rfl) (by decide) (nI_clamp (by decide)) (by decide) ⟨Nat.le_of_ble_eq_true rfl, Nat.le_of_ble_eq_true rfl⟩ dX4_init_15 (fun q1 => ?_)
  rw [yo_app]
  refine yo_putF (f := 7) (fs' := [.int 0, .int 0, .int 0, .int 0, .int 0, .int 0, .ref q0, .ref q1, .null, .null, .null, .null, .null, .null]) C hn9 xt_u4 rfl (by decide) tyX4 tyX4_ok nmX4 lkX4_15 rfl rfl (tyX4_ok 7 (by decide)) rfl rfl (Nat.le_of_ble_eq_true rfl) rfl dX4_init_17 ?_
  refine yv_aload_n C dX4_init_20 rfl ?_
  refine yv_bipush (v := nI 64) C dX4_init_21 (by decide) ?_
  refine yv_newa (atype := .int) (i := 0) (a0 := (64, .inl (fun _ => 0))) C ac_int rfl rfl (fun _ => rfl) (by decide) (nI_clamp (by decide)) (by decide) ⟨Nat.le_of_ble_eq_true rfl, Nat.le_of_ble_eq_true rfl⟩ dX4_init_23 (fun q2 => ?_)
  rw [yo_app]
  refine yo_putF (f := 8) (fs' := [.int 0, .int 0, .int 0, .int 0, .int 0, .int 0, .ref q0, .ref q1, .ref q2, .null, .null, .null, .null, .null]) C hn9 xt_u4 rfl (by decide) tyX4 tyX4_ok nmX4 lkX4_18 rfl rfl (tyX4_ok 8 (by decide)) rfl rfl (Nat.le_of_ble_eq_true rfl) rfl dX4_init_25 ?_
  refine yv_aload_n C dX4_init_28 rfl ?_
  refine yv_bipush (v := nI 64) C dX4_init_29 (by decide) ?_
  refine yv_newa (atype := .int) (i := 0) (a0 := (64, .inl (fun _ => 0))) C ac_int rfl rfl (fun _ => rfl) (by decide) (nI_clamp (by decide)) (by decide) ⟨Nat.le_of_ble_eq_true rfl, Nat.le_of_ble_eq_true rfl⟩ dX4_init_31 (fun q3 => ?_)
  rw [yo_app]
  refine yo_putF (f := 9) (fs' := [.int 0, .int 0, .int 0, .int 0, .int 0, .int 0, .ref q0, .ref q1, .ref q2, .ref q3, .null, .null, .null, .null]) C hn9 xt_u4 rfl (by decide) tyX4 tyX4_ok nmX4 lkX4_21 rfl rfl (tyX4_ok 9 (by decide)) rfl rfl (Nat.le_of_ble_eq_true rfl) rfl dX4_init_33 ?_
  refine yv_aload_n C dX4_init_36 rfl ?_
  refine yv_bipush (v := nI 64) C dX4_init_37 (by decide) ?_
  refine yv_newa (atype := .int) (i := 0) (a0 := (64, .inl (fun _ => 0))) C ac_int rfl rfl (fun _ => rfl) (by decide) (nI_clamp (by decide)) (by decide) ⟨Nat.le_of_ble_eq_true rfl, Nat.le_of_ble_eq_true rfl⟩ dX4_init_39 (fun q4 => ?_)
  rw [yo_app]
  refine yo_putF (f := 10) (fs' := [.int 0, .int 0, .int 0, .int 0, .int 0, .int 0, .ref q0, .ref q1, .ref q2, .ref q3, .ref q4, .null, .null, .null]) C hn9 xt_u4 rfl (by decide) tyX4 tyX4_ok nmX4 lkX4_24 rfl rfl (tyX4_ok 10 (by decide)) rfl rfl (Nat.le_of_ble_eq_true rfl) rfl dX4_init_41 ?_
  refine yv_aload_n C dX4_init_44 rfl ?_
  refine yv_bipush (v := nI 64) C dX4_init_45 (by decide) ?_
  refine yv_newa (atype := .int) (i := 0) (a0 := (64, .inl (fun _ => 0))) C ac_int rfl rfl (fun _ => rfl) (by decide) (nI_clamp (by decide)) (by decide) ⟨Nat.le_of_ble_eq_true rfl, Nat.le_of_ble_eq_true rfl⟩ dX4_init_47 (fun q5 => ?_)
  rw [yo_app]
  refine yo_putF (f := 11) (fs' := [.int 0, .int 0, .int 0, .int 0, .int 0, .int 0, .ref q0, .ref q1, .ref q2, .ref q3, .ref q4, .ref q5, .null, .null]) C hn9 xt_u4 rfl (by decide) tyX4 tyX4_ok nmX4 lkX4_27 rfl rfl (tyX4_ok 11 (by decide)) rfl rfl (Nat.le_of_ble_eq_true rfl) rfl dX4_init_49 ?_
  refine yv_aload_n C dX4_init_52 rfl ?_
  refine yv_bipush (v := nI 64) C dX4_init_53 (by decide) ?_
  refine yv_newa (atype := .int) (i := 0) (a0 := (64, .inl (fun _ => 0))) C ac_int rfl rfl (fun _ => rfl) (by decide) (nI_clamp (by decide)) (by decide) ⟨Nat.le_of_ble_eq_true rfl, Nat.le_of_ble_eq_true rfl⟩ dX4_init_55 (fun q6 => ?_)
  rw [yo_app]
  refine yo_putF (f := 12) (fs' := [.int 0, .int 0, .int 0, .int 0, .int 0, .int 0, .ref q0, .ref q1, .ref q2, .ref q3, .ref q4, .ref q5, .ref q6, .null]) C hn9 xt_u4 rfl (by decide) tyX4 tyX4_ok nmX4 lkX4_30 rfl rfl (tyX4_ok 12 (by decide)) rfl rfl (Nat.le_of_ble_eq_true rfl) rfl dX4_init_57 ?_
  refine yv_aload_n C dX4_init_60 rfl ?_
  refine yv_bipush (v := nI 8) C dX4_init_61 (by decide) ?_
  refine yv_newa (atype := .int) (i := 0) (a0 := (8, .inl (fun _ => 0))) C ac_int rfl rfl (fun _ => rfl) (by decide) (nI_clamp (by decide)) (by decide) ⟨Nat.le_of_ble_eq_true rfl, Nat.le_of_ble_eq_true rfl⟩ dX4_init_63 (fun q7 => ?_)
  rw [yo_app]
  refine yo_putF (f := 13) (fs' := [.int 0, .int 0, .int 0, .int 0, .int 0, .int 0, .ref q0, .ref q1, .ref q2, .ref q3, .ref q4, .ref q5, .ref q6, .ref q7]) C hn9 xt_u4 rfl (by decide) tyX4 tyX4_ok nmX4 lkX4_33 rfl rfl (tyX4_ok 13 (by decide)) rfl rfl (Nat.le_of_ble_eq_true rfl) rfl dX4_init_65 ?_
  exact yv_vret C dX4_init_68 ⟨Nat.le_of_ble_eq_true rfl, Nat.le_of_ble_eq_true rfl⟩ ⟨rfl, q0, q1, q2, q3, q4, q5, q6, q7, rfl⟩
end XN2
