section XC17b
variable {E : xt_Ev} {l : Launch} {S : xt_St}
set_option maxRecDepth 20000 in
set_option maxHeartbeats 2000000 in
theorem ct_planStart {k9 : Nat} : xt_Ct E l yX2_start cX2_start 3 none 1 22 0 0 [.ref (E.1 42), .int (nI k9)] S (xt_Eq none (xt_sA (xt_sN S 42 0 (nI k9)) 43 (xt_zero 64 (S.2.1 43)))) := by
  refine xt_body (by decide +kernel) (xt_all rfl) (Nat.le_of_ble_eq_true rfl) (fun cx C hl9 => ?_)
  show xt_X E cx _ 0 0 0 [some (.ref (E.1 42)), some (.int (nI k9)), none] [] S
  have loop : ∀ (d i : Nat), i ≤ 64 →  64 + 1 ≤ i + d → xt_X E cx (xt_ZM E cx 0 0 (xt_Eq none (xt_sA (xt_sN S 42 0 (nI k9)) 43 (xt_zero 64 (S.2.1 43))))) 0 0 7 [some (.ref (E.1 42)), some (.int (nI k9)), some (.int (nI i))] [] (xt_sA (xt_sN S 42 0 (nI k9)) 43 (xt_zero i (S.2.1 43))) := by
    intro d
    induction d with
    | zero => intro i  h0i  h1i; exact absurd h1i (by omega)
    | succ d ih =>
      intro i  h0i  h1i
      refine xt_iload_n C dX2_start_7 rfl ?_
      refine xt_bipush (v := nI 64) C dX2_start_8 (by decide) ?_
      refine xt_icmp_geN (tgt := 28) C dX2_start_10 (by decide) (by omega) (by omega) (fun c10 => ?_) (fun c10 => ?_)
      · exact xt_vret C dX2_start_28 ⟨by decide, by decide⟩ (by rw [show i = 64 by omega]; exact ⟨rfl, rfl⟩)
      · refine xt_aload_n C dX2_start_13 rfl ?_
        refine xt_get (f := 1) C xt_u2 rfl (by decide) (xt_cl42 _ _) (by decide) lkX2_15 rfl dX2_start_14 ?_
        refine xt_iload_n C dX2_start_17 rfl ?_
        refine xt_iconst (v := nI 0) C dX2_start_18 rfl ?_
        refine xt_cSNn C ms_X5_put lkX2_25 (ct_put (by decide) (xt_cl43 _) (by decide) (by omega)) rfl (by decide) rfl (Nat.le_of_ble_eq_true rfl) dX2_start_19 ?_
        refine xt_iincN (z := 1) (lo' := [_, _, _]) C dX2_start_22 rfl rfl rfl ?_
        refine xt_goto (tgt := 7) C dX2_start_25 (by decide) ?_
        rw [xt_sA_s, xt_sA_sA, show upd (xt_zero i (S.2.1 43)) i (nI 0) = xt_zero (i + 1) (S.2.1 43) from xt_zero_s]
        exact ih (i + 1) (by omega) (by omega)
  refine xt_aload_n C dX2_start_0 rfl ?_
  refine xt_iload_n C dX2_start_1 rfl ?_
  refine xt_put (f := 0) C xt_u2 rfl (by decide) (xt_cl42 _ _) (by decide) tyX2 tyX2_ok nmX2 lkX2_9 rfl (tyX2_ok 0 (by decide)) rfl rfl (Nat.le_of_ble_eq_true rfl) rfl dX2_start_2 ?_
  refine xt_iconst (v := nI 0) C dX2_start_5 rfl ?_
  refine xt_istore_n (lo' := [_, _, _]) C dX2_start_6 (Nat.le_of_ble_eq_true rfl) rfl rfl ?_
  have h9 := loop (64 + 1) 0 (by omega) (by omega)
  rw [xt_zero_0, show xt_sA (xt_sN S 42 0 (nI k9)) 43 (S.2.1 43) = (xt_sN S 42 0 (nI k9)) from xt_sA_self] at h9
  exact h9
set_option maxRecDepth 20000 in
set_option maxHeartbeats 2000000 in
theorem ct_nextTile {n : Nat} {ly : Nat → Nat} {left : Int32} (hn : S.1 42 0 = nI n) (hn64 : n ≤ 64) (hly : ∀ t, t < n → S.2.1 43 t = nI (ly t) ∧ ly t ≤ 9) : xt_Ct E l yX2_nextTile cX2_nextTile 6 (some Jvm.ClassFile.FieldType.int) 1 21 0 0 [.ref (E.1 42), .int left] S (xt_Eq (some (.int (xt_oI (xt_it (xt_nx ly (S.2.1 44) (S.2.1 45) left) n (none, 0)).1))) S) := by
  refine xt_body (by decide +kernel) (xt_all rfl) (Nat.le_of_ble_eq_true rfl) (fun cx C hl9 => ?_)
  show xt_X E cx _ 0 0 0 [some (.ref (E.1 42)), some (.int left), none, none, none, none] [] S
  have loop : ∀ (d t : Nat), t ≤ n →  n + 1 ≤ t + d → xt_X E cx (xt_ZM E cx 0 0 (xt_Eq (some (.int (xt_oI (xt_it (xt_nx ly (S.2.1 44) (S.2.1 45) left) n (none, 0)).1))) S)) 0 0 7 [some (.ref (E.1 42)), some (.int left), some (.int (xt_oI (xt_it (xt_nx ly (S.2.1 44) (S.2.1 45) left) t (none, 0)).1)), some (.int (xt_it (xt_nx ly (S.2.1 44) (S.2.1 45) left) t (none, 0)).2), some (.int (nI t)), none] [] S := by
    intro d
    induction d with
    | zero => intro t  h0t  h1t; exact absurd h1t (by omega)
    | succ d ih =>
      intro t  h0t  h1t
      refine xt_iload C dX2_nextTile_7 rfl ?_
      refine xt_aload_n C dX2_nextTile_9 rfl ?_
      refine xt_get (f := 0) C xt_u2 rfl (by decide) (xt_cl42 _ _) (by decide) lkX2_9 (xt_vI hn) dX2_nextTile_10 ?_
      refine xt_icmp_geN (tgt := 87) C dX2_nextTile_13 (by decide) (by omega) (by omega) (fun c13 => ?_) (fun c13 => ?_)
      · refine xt_iload_n C dX2_nextTile_87 rfl ?_
        exact xt_iret C dX2_nextTile_88 ⟨by decide, by decide⟩ (xt_qI (by rw [show t = n by omega]))
      · have hl9 := (hly t (by omega)).2
        refine xt_aload_n C dX2_nextTile_16 rfl ?_
        refine xt_get (f := 1) C xt_u2 rfl (by decide) (xt_cl42 _ _) (by decide) lkX2_15 rfl dX2_nextTile_17 ?_
        refine xt_iload C dX2_nextTile_20 rfl ?_
        refine xt_cSN C ms_X5_at lkX2_29 (ct_at (by decide) (xt_cl43 _) (by decide) (by omega) (hly t (by omega)).1) rfl (by decide) rfl (Nat.le_of_ble_eq_true rfl) dX2_nextTile_22 ?_
        refine xt_bipush (v := nI 9) C dX2_nextTile_25 (by decide) ?_
        refine xt_icmp_geN (tgt := 47) C dX2_nextTile_27 (by decide) (by omega) (by omega) (fun c27 => ?_) (fun c27 => ?_)
        · have hx0 : xt_nx ly (S.2.1 44) (S.2.1 45) left t (xt_it (xt_nx ly (S.2.1 44) (S.2.1 45) left) t (none, 0)) = (xt_it (xt_nx ly (S.2.1 44) (S.2.1 45) left) t (none, 0)) := xt_nx0 (fun z => absurd z.1 (by omega))
          refine xt_iconst (v := nI 0) C dX2_nextTile_47 rfl ?_
          refine xt_istore (lo' := [_, _, _, _, _, _]) C dX2_nextTile_48 (Nat.le_of_ble_eq_true rfl) rfl rfl ?_
          refine xt_iload C dX2_nextTile_50 rfl ?_
          refine xt_if_eqN (tgt := 81) C dX2_nextTile_52 (by decide) (by decide) (fun _ => ?_) (fun c52 => absurd c52 (by decide))
          refine xt_iincN (z := 1) (lo' := [_, _, _, _, _, _]) C dX2_nextTile_81 rfl rfl rfl ?_
          refine xt_goto (tgt := 7) C dX2_nextTile_84 (by decide) ?_
          have h9 := ih (t + 1) (by omega) (by omega)
          rw [show (xt_it (xt_nx ly (S.2.1 44) (S.2.1 45) left) (t + 1) (none, 0)) = (xt_nx ly (S.2.1 44) (S.2.1 45) left) t (xt_it (xt_nx ly (S.2.1 44) (S.2.1 45) left) t (none, 0)) from rfl] at h9
          first
          | rw [hx0] at h9
          | rw [hx1] at h9
          exact xt_fg (by repeat' constructor) h9
        · refine xt_aload_n C dX2_nextTile_30 rfl ?_
          refine xt_get (f := 3) C xt_u2 rfl (by decide) (xt_cl42 _ _) (by decide) lkX2_22 rfl dX2_nextTile_31 ?_
          refine xt_iload C dX2_nextTile_34 rfl ?_
          refine xt_cSN C ms_X5_at lkX2_29 (ct_at (by decide) (xt_cl45 _) (by decide) (by omega) rfl) rfl (by decide) rfl (Nat.le_of_ble_eq_true rfl) dX2_nextTile_36 ?_
          refine xt_iload_n C dX2_nextTile_39 rfl ?_
          refine xt_icmp_gt (tgt := 47) C dX2_nextTile_40 (by decide) (fun c40 => ?_) (fun c40 => ?_)
          · have hx0 : xt_nx ly (S.2.1 44) (S.2.1 45) left t (xt_it (xt_nx ly (S.2.1 44) (S.2.1 45) left) t (none, 0)) = (xt_it (xt_nx ly (S.2.1 44) (S.2.1 45) left) t (none, 0)) := xt_nx0 (fun z => z.2.1 c40)
            refine xt_iconst (v := nI 0) C dX2_nextTile_47 rfl ?_
            refine xt_istore (lo' := [_, _, _, _, _, _]) C dX2_nextTile_48 (Nat.le_of_ble_eq_true rfl) rfl rfl ?_
            refine xt_iload C dX2_nextTile_50 rfl ?_
            refine xt_if_eqN (tgt := 81) C dX2_nextTile_52 (by decide) (by decide) (fun _ => ?_) (fun c52 => absurd c52 (by decide))
            refine xt_iincN (z := 1) (lo' := [_, _, _, _, _, _]) C dX2_nextTile_81 rfl rfl rfl ?_
            refine xt_goto (tgt := 7) C dX2_nextTile_84 (by decide) ?_
            have h9 := ih (t + 1) (by omega) (by omega)
            rw [show (xt_it (xt_nx ly (S.2.1 44) (S.2.1 45) left) (t + 1) (none, 0)) = (xt_nx ly (S.2.1 44) (S.2.1 45) left) t (xt_it (xt_nx ly (S.2.1 44) (S.2.1 45) left) t (none, 0)) from rfl] at h9
            first
            | rw [hx0] at h9
            | rw [hx1] at h9
            exact xt_fg (by repeat' constructor) h9
          · refine xt_iconst (v := nI 1) C dX2_nextTile_43 rfl ?_
            refine xt_goto (tgt := 48) C dX2_nextTile_44 (by decide) ?_
            refine xt_istore (lo' := [_, _, _, _, _, _]) C dX2_nextTile_48 (Nat.le_of_ble_eq_true rfl) rfl rfl ?_
            refine xt_iload C dX2_nextTile_50 rfl ?_
            refine xt_if_eqN (tgt := 81) C dX2_nextTile_52 (by decide) (by decide) (fun c52 => absurd c52 (by decide)) (fun _ => ?_)
            refine xt_aload_n C dX2_nextTile_55 rfl ?_
            refine xt_get (f := 2) C xt_u2 rfl (by decide) (xt_cl42 _ _) (by decide) lkX2_19 rfl dX2_nextTile_56 ?_
            refine xt_iload C dX2_nextTile_59 rfl ?_
            refine xt_cSN C ms_X5_at lkX2_29 (ct_at (by decide) (xt_cl44 _) (by decide) (by omega) rfl) rfl (by decide) rfl (Nat.le_of_ble_eq_true rfl) dX2_nextTile_61 ?_
            refine xt_iload_n C dX2_nextTile_64 rfl ?_
            refine xt_icmp_le (tgt := 81) C dX2_nextTile_65 (by decide) (fun c65 => ?_) (fun c65 => ?_)
            · have hx0 : xt_nx ly (S.2.1 44) (S.2.1 45) left t (xt_it (xt_nx ly (S.2.1 44) (S.2.1 45) left) t (none, 0)) = (xt_it (xt_nx ly (S.2.1 44) (S.2.1 45) left) t (none, 0)) := xt_nx0 (fun z => absurd z.2.2 (Int32.not_lt.mpr c65))
              refine xt_iincN (z := 1) (lo' := [_, _, _, _, _, _]) C dX2_nextTile_81 rfl rfl rfl ?_
              refine xt_goto (tgt := 7) C dX2_nextTile_84 (by decide) ?_
              have h9 := ih (t + 1) (by omega) (by omega)
              rw [show (xt_it (xt_nx ly (S.2.1 44) (S.2.1 45) left) (t + 1) (none, 0)) = (xt_nx ly (S.2.1 44) (S.2.1 45) left) t (xt_it (xt_nx ly (S.2.1 44) (S.2.1 45) left) t (none, 0)) from rfl] at h9
              first
              | rw [hx0] at h9
              | rw [hx1] at h9
              exact xt_fg (by repeat' constructor) h9
            · have hx1 : xt_nx ly (S.2.1 44) (S.2.1 45) left t (xt_it (xt_nx ly (S.2.1 44) (S.2.1 45) left) t (none, 0)) = (some t, S.2.1 44 t) := xt_nx1 ⟨c27, c40, Int32.not_le.mp c65⟩
              refine xt_iload C dX2_nextTile_68 rfl ?_
              refine xt_istore_n (lo' := [_, _, _, _, _, _]) C dX2_nextTile_70 (Nat.le_of_ble_eq_true rfl) rfl rfl ?_
              refine xt_aload_n C dX2_nextTile_71 rfl ?_
              refine xt_get (f := 2) C xt_u2 rfl (by decide) (xt_cl42 _ _) (by decide) lkX2_19 rfl dX2_nextTile_72 ?_
              refine xt_iload C dX2_nextTile_75 rfl ?_
              refine xt_cSN C ms_X5_at lkX2_29 (ct_at (by decide) (xt_cl44 _) (by decide) (by omega) rfl) rfl (by decide) rfl (Nat.le_of_ble_eq_true rfl) dX2_nextTile_77 ?_
              refine xt_istore_n (lo' := [_, _, _, _, _, _]) C dX2_nextTile_80 (Nat.le_of_ble_eq_true rfl) rfl rfl ?_
              refine xt_iincN (z := 1) (lo' := [_, _, _, _, _, _]) C dX2_nextTile_81 rfl rfl rfl ?_
              refine xt_goto (tgt := 7) C dX2_nextTile_84 (by decide) ?_
              have h9 := ih (t + 1) (by omega) (by omega)
              rw [show (xt_it (xt_nx ly (S.2.1 44) (S.2.1 45) left) (t + 1) (none, 0)) = (xt_nx ly (S.2.1 44) (S.2.1 45) left) t (xt_it (xt_nx ly (S.2.1 44) (S.2.1 45) left) t (none, 0)) from rfl] at h9
              first
              | rw [hx0] at h9
              | rw [hx1] at h9
              exact xt_fg (by repeat' constructor) h9
  refine xt_iconst (v := -1) C dX2_nextTile_0 rfl ?_
  refine xt_istore_n (lo' := [_, _, _, _, _, _]) C dX2_nextTile_1 (Nat.le_of_ble_eq_true rfl) rfl rfl ?_
  refine xt_iconst (v := nI 0) C dX2_nextTile_2 rfl ?_
  refine xt_istore_n (lo' := [_, _, _, _, _, _]) C dX2_nextTile_3 (Nat.le_of_ble_eq_true rfl) rfl rfl ?_
  refine xt_iconst (v := nI 0) C dX2_nextTile_4 rfl ?_
  refine xt_istore (lo' := [_, _, _, _, _, _]) C dX2_nextTile_5 (Nat.le_of_ble_eq_true rfl) rfl rfl ?_
  exact xt_fg (by repeat' constructor) (loop (n + 1) 0 (by omega) (by omega))
set_option maxRecDepth 20000 in
set_option maxHeartbeats 2000000 in
theorem ct_refuse {a b : Int32} : xt_Ct E l yX5_refuse cX5_refuse 3 none 0 0 0 0 [.ref (E.1 0), .int a, .int b] S (xt_Eq none (xt_sN (xt_sN S 0 8 a) 0 9 b)) := by
  refine xt_body (by decide +kernel) (xt_all rfl) (Nat.le_of_ble_eq_true rfl) (fun cx C hl9 => ?_)
  show xt_X E cx _ 0 0 0 [some (.ref (E.1 0)), some (.int a), some (.int b)] [] S
  refine xt_aload_n C dX5_refuse_0 rfl ?_
  refine xt_iload_n C dX5_refuse_1 rfl ?_
  refine xt_put (f := 8) C xt_u5 rfl (by decide) (xt_cl0 _ _) (by decide) tyX5 tyX5_ok nmX5 lkX5_55 rfl (tyX5_ok 8 (by decide)) rfl rfl (Nat.le_of_ble_eq_true rfl) rfl dX5_refuse_2 ?_
  refine xt_aload_n C dX5_refuse_5 rfl ?_
  refine xt_iload_n C dX5_refuse_6 rfl ?_
  refine xt_put (f := 9) C xt_u5 rfl (by decide) (xt_cl0 _ _) (by decide) tyX5 tyX5_ok nmX5 lkX5_58 rfl (tyX5_ok 9 (by decide)) rfl rfl (Nat.le_of_ble_eq_true rfl) rfl dX5_refuse_7 ?_
  exact xt_vret C dX5_refuse_10 ⟨by decide, by decide⟩ ⟨rfl, rfl⟩
set_option maxRecDepth 20000 in
set_option maxHeartbeats 2000000 in
theorem ct_hasPlace {c r sd pl pb : Nat} (hP : xt_Pic S 1 c r sd pl pb) {t x y : Int32} : xt_Ct E l yX5_hasPlace cX5_hasPlace 4 (some Jvm.ClassFile.FieldType.boolean) 4 84 0 0 [.ref (E.1 0), .int t, .int x, .int y] S (xt_Eq (some (.int (xt_b (∃ j, j < xt_nt c r sd ∧ t = nI j ∧ xt_pix (xt_gw c sd j) (xt_gh c r sd j) x y)))) S) := by
  refine xt_body (by decide +kernel) (xt_all rfl) (Nat.le_of_ble_eq_true rfl) (fun cx C hl9 => ?_)
  show xt_X E cx _ 0 0 0 [some (.ref (E.1 0)), some (.int t), some (.int x), some (.int y)] [] S
  have hP9 := hP
  obtain ⟨hc, hr, hs, hv, hb, b1, b2, b3, b4, b5, b6, b7⟩ := hP
  refine xt_aload_n C dX5_hasPlace_0 rfl ?_
  refine xt_get (f := 0) C xt_u5 rfl (by decide) (xt_cl0 _ _) (by decide) lkX5_10 rfl dX5_hasPlace_1 ?_
  refine xt_iload_n C dX5_hasPlace_4 rfl ?_
  refine xt_cVN C mv_X1_hasTile lkX5_164 (ct_hasTile (by exact hP9)) rfl (by decide) (xt_cl1 _ _) rfl (by decide) rfl (Nat.le_of_ble_eq_true rfl) dX5_hasPlace_5 ?_
  refine xt_if_eqB (tgt := 51) C dX5_hasPlace_8 (by decide) (fun c8 => ?_) (fun c8 => ?_)
  · have hno : ¬ (∃ j, j < xt_nt c r sd ∧ t = nI j ∧ xt_pix (xt_gw c sd j) (xt_gh c r sd j) x y) := fun ⟨j, h1, h2, _⟩ => c8 ⟨j, h1, h2⟩
    refine xt_iconst (v := nI 0) C dX5_hasPlace_51 rfl ?_
    refine xt_zret C dX5_hasPlace_52 (by decide) ⟨by decide, by decide⟩ ?_
    first
    | exact xt_q0 hno
    | exact xt_q1 hyes
  · obtain ⟨j, hj, rfl⟩ := c8
    have hT := xt_tile_b ⟨b1, b2⟩ ⟨b3, b4⟩ b5 hj
    have hj64 := (xt_nt_b ⟨b1, b2⟩ ⟨b3, b4⟩ b5).2
    have hinj : ∀ i, i < xt_nt c r sd → nI j = nI i → i = j := fun i hi e => ((nI_eq (by omega) (by omega)).mp e).symm
    refine xt_iload_n C dX5_hasPlace_11 rfl ?_
    refine xt_iconst (v := nI 0) C dX5_hasPlace_12 rfl ?_
    refine xt_aload_n C dX5_hasPlace_13 rfl ?_
    refine xt_get (f := 0) C xt_u5 rfl (by decide) (xt_cl0 _ _) (by decide) lkX5_10 rfl dX5_hasPlace_14 ?_
    refine xt_iload_n C dX5_hasPlace_17 rfl ?_
    refine xt_cVN C mv_X1_widthOf lkX5_217 (ct_widthOf (by exact hP9) hj) rfl (by decide) (xt_cl1 _ _) rfl (by decide) rfl (Nat.le_of_ble_eq_true rfl) dX5_hasPlace_18 ?_
    refine xt_iconst (v := nI 1) C dX5_hasPlace_21 rfl ?_
    refine xt_isubN C dX5_hasPlace_22 (by omega) ?_
    refine xt_cS C ms_X5_isBetween lkX5_61 ct_between rfl (by decide) rfl (Nat.le_of_ble_eq_true rfl) dX5_hasPlace_23 ?_
    refine xt_if_eqB (tgt := 51) C dX5_hasPlace_26 (by decide) (fun c26 => ?_) (fun c26 => ?_)
    · have hno : ¬ (∃ i, i < xt_nt c r sd ∧ nI j = nI i ∧ xt_pix (xt_gw c sd i) (xt_gh c r sd i) x y) := by
        rintro ⟨i, h1, h2, h3⟩
        cases hinj i h1 h2
        exact c26 ((xt_btw1 (by omega) (by omega)).mpr h3.1)
      refine xt_iconst (v := nI 0) C dX5_hasPlace_51 rfl ?_
      refine xt_zret C dX5_hasPlace_52 (by decide) ⟨by decide, by decide⟩ ?_
      first
      | exact xt_q0 hno
      | exact xt_q1 hyes
    · refine xt_iload_n C dX5_hasPlace_29 rfl ?_
      refine xt_iconst (v := nI 0) C dX5_hasPlace_30 rfl ?_
      refine xt_aload_n C dX5_hasPlace_31 rfl ?_
      refine xt_get (f := 0) C xt_u5 rfl (by decide) (xt_cl0 _ _) (by decide) lkX5_10 rfl dX5_hasPlace_32 ?_
      refine xt_iload_n C dX5_hasPlace_35 rfl ?_
      refine xt_cVN C mv_X1_heightOf lkX5_220 (ct_heightOf (by exact hP9) hj) rfl (by decide) (xt_cl1 _ _) rfl (by decide) rfl (Nat.le_of_ble_eq_true rfl) dX5_hasPlace_36 ?_
      refine xt_iconst (v := nI 1) C dX5_hasPlace_39 rfl ?_
      refine xt_isubN C dX5_hasPlace_40 (by omega) ?_
      refine xt_cS C ms_X5_isBetween lkX5_61 ct_between rfl (by decide) rfl (Nat.le_of_ble_eq_true rfl) dX5_hasPlace_41 ?_
      refine xt_if_eqB (tgt := 51) C dX5_hasPlace_44 (by decide) (fun c44 => ?_) (fun c44 => ?_)
      · have hno : ¬ (∃ i, i < xt_nt c r sd ∧ nI j = nI i ∧ xt_pix (xt_gw c sd i) (xt_gh c r sd i) x y) := by
          rintro ⟨i, h1, h2, h3⟩
          cases hinj i h1 h2
          exact c44 ((xt_btw1 (by omega) (by omega)).mpr h3.2)
        refine xt_iconst (v := nI 0) C dX5_hasPlace_51 rfl ?_
        refine xt_zret C dX5_hasPlace_52 (by decide) ⟨by decide, by decide⟩ ?_
        first
        | exact xt_q0 hno
        | exact xt_q1 hyes
      · have hyes : (∃ i, i < xt_nt c r sd ∧ nI j = nI i ∧ xt_pix (xt_gw c sd i) (xt_gh c r sd i) x y) := ⟨j, hj, rfl, (xt_btw1 (by omega) (by omega)).mp c26, (xt_btw1 (by omega) (by omega)).mp c44⟩
        refine xt_iconst (v := nI 1) C dX5_hasPlace_47 rfl ?_
        refine xt_goto (tgt := 52) C dX5_hasPlace_48 (by decide) ?_
        refine xt_zret C dX5_hasPlace_52 (by decide) ⟨by decide, by decide⟩ ?_
        first
        | exact xt_q0 hno
        | exact xt_q1 hyes
set_option maxRecDepth 20000 in
set_option maxHeartbeats 2000000 in
theorem ct_weigh {c r sd pl pb : Nat} (hP : xt_Pic S 1 c r sd pl pb) {t : Nat} (ht : t < xt_nt c r sd) (hk : ∀ j, j < 256 → S.2.1 3 j = nI 0 ∨ S.2.1 3 j = nI 1) {n : Nat} (hnl : S.2.1 43 t = nI n) (hn9 : n ≤ 9) : xt_Ct E l yX5_weigh cX5_weigh 3 none 6 152 0 0 [.ref (E.1 0), .int (nI t)] S (xt_Ep none (fun S9 => ∃ T, xt_fr S T ∧ S9 = xt_sA (xt_sA T 44 (upd (S.2.1 44) t (xt_tW c r sd pl pb t n (S.2.1 2) (S.2.1 3)))) 45 (upd (S.2.1 45) t (xt_tB c r sd pl pb t (nI n) (S.2.1 2) (S.2.1 3))))) := by
  refine xt_body (by decide +kernel) (xt_all rfl) (Nat.le_of_ble_eq_true rfl) (fun cx C hl9 => ?_)
  show xt_X E cx _ 0 0 0 [some (.ref (E.1 0)), some (.int (nI t)), none] [] S
  have hP9 := hP
  obtain ⟨hc, hr, hs, hv, hb, b1, b2, b3, b4, b5, b6, b7⟩ := hP
  have hn := xt_nt_b ⟨b1, b2⟩ ⟨b3, b4⟩ b5
  have hT := xt_tile_b ⟨b1, b2⟩ ⟨b3, b4⟩ b5 ht
  have ht64 : t < 64 := by omega
  refine xt_aload_n C dX5_weigh_0 rfl ?_
  refine xt_get (f := 4) C xt_u5 rfl (by decide) (xt_cl0 _ _) (by decide) lkX5_33 rfl dX5_weigh_1 ?_
  refine xt_aload_n C dX5_weigh_4 rfl ?_
  refine xt_get (f := 0) C xt_u5 rfl (by decide) (xt_cl0 _ _) (by decide) lkX5_10 rfl dX5_weigh_5 ?_
  refine xt_iload_n C dX5_weigh_8 rfl ?_
  refine xt_cVNpn C mv_X4_load lkX5_170 (ct_load (by exact hP9) ht hk) rfl (by decide) (xt_cl33 _ _) rfl (by decide) rfl (Nat.le_of_ble_eq_true rfl) dX5_weigh_9 (fun S9 hq9 => ?_)
  obtain ⟨hfr, hTL0⟩ := hq9
  have hTL : xt_TL S9 c r sd pl pb t (S.2.1 2) (S.2.1 3) := hTL0
  refine xt_aload_n C dX5_weigh_12 rfl ?_
  refine xt_get (f := 5) C xt_u5 rfl (by decide) (xt_cl0 _ _) (by decide) lkX5_40 rfl dX5_weigh_13 ?_
  refine xt_getN (f := 1) C xt_u2 rfl (by decide) (xt_cl42 _ _) (by decide) lkX5_299 rfl dX5_weigh_16 ?_
  refine xt_iload_n C dX5_weigh_19 rfl ?_
  refine xt_cS C ms_X5_at lkX5_145 (ct_at (by decide) (xt_cl43 _) (by decide) ht64 (v := nI n) (by rw [hfr.2.1 43 (by omega)]; exact hnl)) rfl (by decide) rfl (Nat.le_of_ble_eq_true rfl) dX5_weigh_20 ?_
  refine xt_istore_n (lo' := [_, _, _]) C dX5_weigh_23 (Nat.le_of_ble_eq_true rfl) rfl rfl ?_
  refine xt_aload_n C dX5_weigh_24 rfl ?_
  refine xt_get (f := 5) C xt_u5 rfl (by decide) (xt_cl0 _ _) (by decide) lkX5_40 rfl dX5_weigh_25 ?_
  refine xt_getN (f := 2) C xt_u2 rfl (by decide) (xt_cl42 _ _) (by decide) lkX5_350 rfl dX5_weigh_28 ?_
  refine xt_iload_n C dX5_weigh_31 rfl ?_
  refine xt_aload_n C dX5_weigh_32 rfl ?_
  refine xt_get (f := 4) C xt_u5 rfl (by decide) (xt_cl0 _ _) (by decide) lkX5_33 rfl dX5_weigh_33 ?_
  refine xt_iload_n C dX5_weigh_36 rfl ?_
  refine xt_cVNp C mv_X4_greatestDifference lkX5_276 (ct_greatest (by exact xt_TL_n hTL) (xt_TL_m hTL) hn9) rfl (by decide) (xt_cl33 _ _) rfl (by decide) rfl (Nat.le_of_ble_eq_true rfl) dX5_weigh_37 (fun S9 hq9 => ?_)
  obtain ⟨g9, f9, rfl⟩ := hq9
  rw [xt_TL_W hTL]
  have hTL1 : xt_TL (xt_sA (xt_sA S9 41 g9) 40 f9) c r sd pl pb t (S.2.1 2) (S.2.1 3) := xt_TL_k hTL rfl (fun i h1 h2 => by rw [xt_sA_n (by omega), xt_sA_n (by omega)])
  have hfr1 : xt_fr S (xt_sA (xt_sA S9 41 g9) 40 f9) := xt_fr_A (by omega) (xt_fr_A (by omega) hfr)
  generalize xt_sA (xt_sA S9 41 g9) 40 f9 = T at hTL1 hfr1 ⊢
  refine xt_cSn C ms_X5_put lkX5_149 (ct_put (by decide) (xt_cl44 _) (by decide) ht64) rfl (by decide) rfl (Nat.le_of_ble_eq_true rfl) dX5_weigh_40 ?_
  refine xt_aload_n C dX5_weigh_43 rfl ?_
  refine xt_get (f := 5) C xt_u5 rfl (by decide) (xt_cl0 _ _) (by decide) lkX5_40 rfl dX5_weigh_44 ?_
  refine xt_getN (f := 3) C xt_u2 rfl (by decide) (xt_cl42 _ _) (by decide) lkX5_296 rfl dX5_weigh_47 ?_
  refine xt_iload_n C dX5_weigh_50 rfl ?_
  refine xt_aload_n C dX5_weigh_51 rfl ?_
  refine xt_get (f := 4) C xt_u5 rfl (by decide) (xt_cl0 _ _) (by decide) lkX5_33 rfl dX5_weigh_52 ?_
  refine xt_iload_n C dX5_weigh_55 rfl ?_
  refine xt_cVN C mv_X4_bitTotal lkX5_256 (ct_bitTotal (by exact xt_TL_n hTL1) (by exact xt_TL_m hTL1)) rfl (by decide) (xt_cl33 _ _) rfl (by decide) rfl (Nat.le_of_ble_eq_true rfl) dX5_weigh_56 ?_
  rw [show (xt_sA T 44 (upd (T.2.1 44) t (xt_tW c r sd pl pb t n (S.2.1 2) (S.2.1 3)))).2.1 35 = T.2.1 35 from rfl, xt_TL_B hTL1]
  refine xt_cSn C ms_X5_put lkX5_149 (ct_put (by decide) (xt_cl45 _) (by decide) ht64) rfl (by decide) rfl (Nat.le_of_ble_eq_true rfl) dX5_weigh_59 ?_
  exact xt_vret C dX5_weigh_62 ⟨by decide, by decide⟩ ⟨rfl, T, hfr1, by rw [show (xt_sA T 44 _).2.1 45 = T.2.1 45 from rfl, hfr1.2.1 44 (by omega), hfr1.2.1 45 (by omega)]⟩
end XC17b
