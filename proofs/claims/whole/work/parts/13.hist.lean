/-! COPIES AND THE HISTORY -/
section XC6
variable {E : xt_Ev} {l : Launch} {S : xt_St}
/-- the numbers of the cells that are pictures -/
def xt_pid (i : Nat) : Prop := i = 1 ∨ i = 4 ∨ ∃ k, k < 8 ∧ i = 9 + 3 * k
theorem xt_pid_N {i : Nat} (h : xt_pid i) : i < xt_NC ∧ i + 1 < xt_NC ∧ i + 2 < xt_NC := by
  show i < 69 ∧ i + 1 < 69 ∧ i + 2 < 69
  rcases h with rfl | rfl | ⟨k, hk, rfl⟩ <;> omega
theorem xt_pid_n {p q : Nat} (hp : xt_pid p) (hq : xt_pid q) (h : q ≠ p) : q + 1 ≠ p + 2 ∧ q + 2 ≠ p + 1 := by
  rcases hp with rfl | rfl | ⟨k, hk, rfl⟩ <;> rcases hq with rfl | rfl | ⟨k', hk', rfl⟩ <;> omega
theorem xt_cellP {E : xt_Ev} {S : xt_St} {i : Nat} (h : xt_pid i) : xt_cell E S i = .inr (1, [.int (S.1 i 0), .int (S.1 i 1), .int (S.1 i 2), .int (S.1 i 3), .int (S.1 i 4), .ref (E.1 (i + 1)), .ref (E.1 (i + 2))]) := by
  rcases h with rfl | rfl | ⟨k, hk, rfl⟩
  · rfl
  · rfl
  · match k, hk with
    | 0, _ => rfl
    | 1, _ => rfl
    | 2, _ => rfl
    | 3, _ => rfl
    | 4, _ => rfl
    | 5, _ => rfl
    | 6, _ => rfl
    | 7, _ => rfl
theorem xt_arP1 {E : xt_Ev} {i : Nat} (h : xt_pid i) : xt_ar E 0 (i + 1) 256 := by
  intro S
  rcases h with rfl | rfl | ⟨k, hk, rfl⟩
  · rfl
  · rfl
  · match k, hk with
    | 0, _ => rfl
    | 1, _ => rfl
    | 2, _ => rfl
    | 3, _ => rfl
    | 4, _ => rfl
    | 5, _ => rfl
    | 6, _ => rfl
    | 7, _ => rfl
theorem xt_arP2 {E : xt_Ev} {i : Nat} (h : xt_pid i) : xt_ar E 0 (i + 2) 256 := by
  intro S
  rcases h with rfl | rfl | ⟨k, hk, rfl⟩
  · rfl
  · rfl
  · match k, hk with
    | 0, _ => rfl
    | 1, _ => rfl
    | 2, _ => rfl
    | 3, _ => rfl
    | 4, _ => rfl
    | 5, _ => rfl
    | 6, _ => rfl
    | 7, _ => rfl
/-- picture p becomes as picture q is -/
def xt_cpA (S : xt_St) (p q n : Nat) : Nat → Nat → Int32 := fun id j => if (id = p + 1 ∨ id = p + 2) ∧ j < n then S.2.1 (id - p + q) j else S.2.1 id j
def xt_cp (S : xt_St) (p q : Nat) : xt_St := (fun i f => if i = p ∧ f < 5 then S.1 q f else S.1 i f, xt_cpA S p q 256, S.2.2)
theorem xt_cp_step {S T : xt_St} {p q i : Nat} (hq : q ≠ p) (h1 : q + 1 ≠ p + 2) (h2 : q + 2 ≠ p + 1) (h : T.2.1 = xt_cpA S p q i) :
    (xt_sA (xt_sA T (p + 1) (upd (T.2.1 (p + 1)) i (T.2.1 (q + 1) i))) (p + 2) (upd ((xt_sA T (p + 1) (upd (T.2.1 (p + 1)) i (T.2.1 (q + 1) i))).2.1 (p + 2)) i ((xt_sA T (p + 1) (upd (T.2.1 (p + 1)) i (T.2.1 (q + 1) i))).2.1 (q + 2) i))).2.1 = xt_cpA S p q (i + 1) := by
  have e1 : T.2.1 (q + 1) i = S.2.1 (q + 1) i := by rw [h]; exact if_neg (by omega)
  have e2 : T.2.1 (q + 2) i = S.2.1 (q + 2) i := by rw [h]; exact if_neg (by omega)
  rw [xt_sA_n (S := T) h2, xt_sA_n (S := T) (show p + 2 ≠ p + 1 by omega), e1, e2]
  have key : ∀ (id j : Nat), ¬ j = i → xt_cpA S p q i id j = xt_cpA S p q (i + 1) id j := by
    intro id j hj
    unfold xt_cpA
    by_cases z : (id = p + 1 ∨ id = p + 2) ∧ j < i
    · rw [if_pos z, if_pos ⟨z.1, by omega⟩]
    · rw [if_neg z, if_neg (fun y => z ⟨y.1, by omega⟩)]
  funext id j
  by_cases a : id = p + 2
  · subst a
    rw [xt_sA_s]
    by_cases b : j = i
    · subst b
      rw [xt_up_s]
      unfold xt_cpA
      rw [if_pos ⟨Or.inr rfl, by omega⟩, show p + 2 - p + q = q + 2 by omega]
    · rw [xt_up_n b, h, key _ _ b]
  · rw [xt_sA_n a]
    by_cases a1 : id = p + 1
    · subst a1
      rw [xt_sA_s]
      by_cases b : j = i
      · subst b
        rw [xt_up_s]
        unfold xt_cpA
        rw [if_pos ⟨Or.inl rfl, by omega⟩, show p + 1 - p + q = q + 1 by omega]
      · rw [xt_up_n b, h, key _ _ b]
    · rw [xt_sA_n a1, h]
      unfold xt_cpA
      rw [if_neg (fun z => by rcases z.1 with z | z; exact a1 z; exact a z), if_neg (fun z => by rcases z.1 with z | z; exact a1 z; exact a z)]
set_option maxRecDepth 20000 in
set_option maxHeartbeats 2000000 in
theorem ct_copy {p q : Nat} (hp : xt_pid p) (hq : xt_pid q) (hpq : q ≠ p) : xt_Ct E l yX1_copy cX1_copy 3 none 1 22 0 0 [.ref (E.1 p), .ref (E.1 q)] S (xt_Eq none (xt_cp S p q)) := by
  refine xt_body (by decide +kernel) (xt_all rfl) (Nat.le_of_ble_eq_true rfl) (fun cx C hl9 => ?_)
  show xt_X E cx _ 0 0 0 [some (.ref (E.1 p)), some (.ref (E.1 q)), none] [] S
  have hpN := xt_pid_N hp
  have hqN := xt_pid_N hq
  have hn := xt_pid_n hp hq hpq
  have loop : ∀ (d i : Nat) (T : xt_St), i ≤ 256 → T.1 = (fun i f => if i = p ∧ f < 5 then S.1 q f else S.1 i f) → T.2.1 = xt_cpA S p q i → T.2.2 = S.2.2 → 256 + 1 ≤ i + d → xt_X E cx (xt_ZM E cx 0 0 (xt_Eq none (xt_cp S p q))) 0 0 42 [some (.ref (E.1 p)), some (.ref (E.1 q)), some (.int (nI i))] [] T := by
    intro d
    induction d with
    | zero => intro i T h0i hT1 hT2 hT3 h1i; exact absurd h1i (by omega)
    | succ d ih =>
      intro i T h0i hT1 hT2 hT3 h1i
      refine xt_iload_n C dX1_copy_42 rfl ?_
      refine xt_sipush (v := nI 256) C dX1_copy_43 (by decide) ?_
      refine xt_icmp_geN (tgt := 87) C dX1_copy_46 (by decide) (by omega) (by omega) (fun c46 => ?_) (fun c46 => ?_)
      · exact xt_vret C dX1_copy_87 ⟨by decide, by decide⟩ (by have hi9 : i = 256 := (by omega);  subst hi9; refine ⟨rfl, ?_⟩; exact Prod.ext hT1 (Prod.ext hT2 hT3))
      · refine xt_aload_n C dX1_copy_49 rfl ?_
        refine xt_get (f := 5) C xt_u1 rfl hpN.1 (xt_cellP hp) (by decide) lkX1_27 rfl dX1_copy_50 ?_
        refine xt_iload_n C dX1_copy_53 rfl ?_
        refine xt_aload_n C dX1_copy_54 rfl ?_
        refine xt_get (f := 5) C xt_u1 rfl hqN.1 (xt_cellP hq) (by decide) lkX1_27 rfl dX1_copy_55 ?_
        refine xt_iload_n C dX1_copy_58 rfl ?_
        refine xt_cSN C ms_X5_at lkX1_34 (ct_at hqN.2.1 (xt_arP1 hq) (by decide) (by omega) rfl) rfl (by decide) rfl (Nat.le_of_ble_eq_true rfl) dX1_copy_59 ?_
        refine xt_cSNn C ms_X5_put lkX1_38 (ct_put hpN.2.1 (xt_arP1 hp) (by decide) (by omega)) rfl (by decide) rfl (Nat.le_of_ble_eq_true rfl) dX1_copy_62 ?_
        refine xt_aload_n C dX1_copy_65 rfl ?_
        refine xt_get (f := 6) C xt_u1 rfl hpN.1 (xt_cellP hp) (by decide) lkX1_31 rfl dX1_copy_66 ?_
        refine xt_iload_n C dX1_copy_69 rfl ?_
        refine xt_aload_n C dX1_copy_70 rfl ?_
        refine xt_get (f := 6) C xt_u1 rfl hqN.1 (xt_cellP hq) (by decide) lkX1_31 rfl dX1_copy_71 ?_
        refine xt_iload_n C dX1_copy_74 rfl ?_
        refine xt_cSN C ms_X5_at lkX1_34 (ct_at hqN.2.2 (xt_arP2 hq) (by decide) (by omega) rfl) rfl (by decide) rfl (Nat.le_of_ble_eq_true rfl) dX1_copy_75 ?_
        refine xt_cSNn C ms_X5_put lkX1_38 (ct_put hpN.2.2 (xt_arP2 hp) (by decide) (by omega)) rfl (by decide) rfl (Nat.le_of_ble_eq_true rfl) dX1_copy_78 ?_
        refine xt_iincN (z := 1) (lo' := [_, _, _]) C dX1_copy_81 rfl rfl rfl ?_
        refine xt_goto (tgt := 42) C dX1_copy_84 (by decide) ?_
        exact ih (i + 1) _ (by omega) hT1 (xt_cp_step hpq hn.1 hn.2 hT2) hT3 (by omega)
  refine xt_aload_n C dX1_copy_0 rfl ?_
  refine xt_aload_n C dX1_copy_1 rfl ?_
  refine xt_get (f := 0) C xt_u1 rfl hqN.1 (xt_cellP hq) (by decide) lkX1_9 rfl dX1_copy_2 ?_
  refine xt_put (f := 0) C xt_u1 rfl hpN.1 (xt_cellP hp) (by decide) tyX1 tyX1_ok nmX1 lkX1_9 rfl (tyX1_ok 0 (by decide)) rfl rfl (Nat.le_of_ble_eq_true rfl) (by rw [xt_cellP hp]; simp [xt_sN]) dX1_copy_5 ?_
  refine xt_aload_n C dX1_copy_8 rfl ?_
  refine xt_aload_n C dX1_copy_9 rfl ?_
  refine xt_get (f := 1) C xt_u1 rfl hqN.1 (xt_cellP hq) (by decide) lkX1_15 rfl dX1_copy_10 ?_
  refine xt_put (f := 1) C xt_u1 rfl hpN.1 (xt_cellP hp) (by decide) tyX1 tyX1_ok nmX1 lkX1_15 rfl (tyX1_ok 1 (by decide)) rfl rfl (Nat.le_of_ble_eq_true rfl) (by rw [xt_cellP hp]; simp [xt_sN]) dX1_copy_13 ?_
  refine xt_aload_n C dX1_copy_16 rfl ?_
  refine xt_aload_n C dX1_copy_17 rfl ?_
  refine xt_get (f := 2) C xt_u1 rfl hqN.1 (xt_cellP hq) (by decide) lkX1_18 rfl dX1_copy_18 ?_
  refine xt_put (f := 2) C xt_u1 rfl hpN.1 (xt_cellP hp) (by decide) tyX1 tyX1_ok nmX1 lkX1_18 rfl (tyX1_ok 2 (by decide)) rfl rfl (Nat.le_of_ble_eq_true rfl) (by rw [xt_cellP hp]; simp [xt_sN]) dX1_copy_21 ?_
  refine xt_aload_n C dX1_copy_24 rfl ?_
  refine xt_aload_n C dX1_copy_25 rfl ?_
  refine xt_get (f := 3) C xt_u1 rfl hqN.1 (xt_cellP hq) (by decide) lkX1_21 rfl dX1_copy_26 ?_
  refine xt_put (f := 3) C xt_u1 rfl hpN.1 (xt_cellP hp) (by decide) tyX1 tyX1_ok nmX1 lkX1_21 rfl (tyX1_ok 3 (by decide)) rfl rfl (Nat.le_of_ble_eq_true rfl) (by rw [xt_cellP hp]; simp [xt_sN]) dX1_copy_29 ?_
  refine xt_aload_n C dX1_copy_32 rfl ?_
  refine xt_aload_n C dX1_copy_33 rfl ?_
  refine xt_get (f := 4) C xt_u1 rfl hqN.1 (xt_cellP hq) (by decide) lkX1_24 rfl dX1_copy_34 ?_
  refine xt_put (f := 4) C xt_u1 rfl hpN.1 (xt_cellP hp) (by decide) tyX1 tyX1_ok nmX1 lkX1_24 rfl (tyX1_ok 4 (by decide)) rfl rfl (Nat.le_of_ble_eq_true rfl) (by rw [xt_cellP hp]; simp [xt_sN]) dX1_copy_37 ?_
  refine xt_iconst (v := nI 0) C dX1_copy_40 rfl ?_
  refine xt_istore_n (lo' := [_, _, _]) C dX1_copy_41 (Nat.le_of_ble_eq_true rfl) rfl rfl ?_
  refine loop (256 + 1) 0 _ (by omega) ?_ ?_ rfl (by omega)
  · funext i f
    simp only [xt_sN]
    by_cases a : i = p
    · subst a
      match f with
      | 0 => simp [hpq]
      | 1 => simp [hpq]
      | 2 => simp [hpq]
      | 3 => simp [hpq]
      | 4 => simp [hpq]
      | f + 5 => simp; intro z; omega
    · simp [a]
  · funext id j
    simp [xt_cpA, xt_sN]
set_option maxRecDepth 20000 in
set_option maxHeartbeats 2000000 in
theorem ct_pictureAt {j : Nat} (hj : j < 8) : xt_Ct E l yX0_pictureAt cX0_pictureAt 2 (some (Jvm.ClassFile.FieldType.object "WaveletTiler$Picture")) 0 0 0 0 [.ref (E.1 7), .int (nI j)] S (xt_Eq (some (.ref (E.1 (9 + 3 * j)))) S) := by
  refine xt_body (by decide +kernel) (xt_all rfl) (Nat.le_of_ble_eq_true rfl) (fun cx C hl9 => ?_)
  show xt_X E cx _ 0 0 0 [some (.ref (E.1 7)), some (.int (nI j))] [] S
  refine xt_iload_n C dX0_pictureAt_0 rfl ?_
  refine xt_if_ltN (tgt := 22) C dX0_pictureAt_1 (by decide) (by omega) ?_
  refine xt_iload_n C dX0_pictureAt_4 rfl ?_
  refine xt_aload_n C dX0_pictureAt_5 rfl ?_
  refine xt_get (f := 0) C xt_u0 rfl (by decide) (xt_cl7 _ _) (by decide) lkX0_11 rfl dX0_pictureAt_6 ?_
  refine xt_alen (v := nI 8) (cs := 5) C (by decide) (by decide) (xt_cl8 _ _) rfl dX0_pictureAt_9 ?_
  refine xt_icmp_geN (tgt := 22) C dX0_pictureAt_10 (by decide) (by omega) (by omega) (fun c10 => ?_) (fun c10 => ?_)
  · exact absurd c10 (by omega)
  · refine xt_aload_n C dX0_pictureAt_13 rfl ?_
    refine xt_get (f := 0) C xt_u0 rfl (by decide) (xt_cl7 _ _) (by decide) lkX0_11 rfl dX0_pictureAt_14 ?_
    refine xt_iload_n C dX0_pictureAt_17 rfl ?_
    refine xt_aald C (vp_in_nI hj (by decide)) (by rw [nI_clamp (by omega)]) dX0_pictureAt_18 ?_
    refine xt_goto (tgt := 23) C dX0_pictureAt_19 (by decide) ?_
    exact xt_aret C (Or.inl ⟨_, rfl⟩) (Or.inr ⟨_, rfl⟩) dX0_pictureAt_23 ⟨by decide, by decide⟩ ⟨rfl, rfl⟩
def xt_keep (S : xt_St) (nx kp : Nat) : xt_St := xt_sN (xt_sN (xt_cp S (9 + 3 * nx) 1) 7 1 (nI (if nx + 1 < 8 then nx + 1 else 0))) 7 2 (nI (min (kp + 1) 8))
def xt_back (S : xt_St) (nx kp : Nat) : xt_St := xt_cp (xt_sN (xt_sN S 7 1 (nI (if 0 < nx then nx - 1 else 7))) 7 2 (nI (max (kp - 1) 0))) 1 (9 + 3 * (if 0 < nx then nx - 1 else 7))
theorem xt_cp_o {S : xt_St} {p q i f : Nat} (h : i ≠ p) : (xt_cp S p q).1 i f = S.1 i f := by simp [xt_cp, h]
set_option maxRecDepth 20000 in
set_option maxHeartbeats 2000000 in
theorem ct_keep {nx kp : Nat} (hnx : S.1 7 1 = nI nx) (hkp : S.1 7 2 = nI kp) (hn8 : nx < 8) (hk8 : kp ≤ 8) : xt_Ct E l yX0_keep cX0_keep 3 none 2 44 0 0 [.ref (E.1 7), .ref (E.1 1)] S (xt_Eq none (xt_keep S nx kp)) := by
  refine xt_body (by decide +kernel) (xt_all rfl) (Nat.le_of_ble_eq_true rfl) (fun cx C hl9 => ?_)
  show xt_X E cx _ 0 0 0 [some (.ref (E.1 7)), some (.ref (E.1 1)), none] [] S
  refine xt_aload_n C dX0_keep_0 rfl ?_
  refine xt_aload_n C dX0_keep_1 rfl ?_
  refine xt_get (f := 1) C xt_u0 rfl (by decide) (xt_cl7 _ _) (by decide) lkX0_18 (xt_vI hnx) dX0_keep_2 ?_
  refine xt_cV C mv_X0_pictureAt lkX0_25 (ct_pictureAt hn8) rfl (by decide) (xt_cl7 _ _) rfl (by decide) rfl (Nat.le_of_ble_eq_true rfl) dX0_keep_5 ?_
  refine xt_astore_n (lo' := [_, _, _]) C dX0_keep_8 (Nat.le_of_ble_eq_true rfl) rfl rfl ?_
  refine xt_aload_n C dX0_keep_9 rfl ?_
  refine xt_ifnull C dX0_keep_10 ?_
  refine xt_aload_n C dX0_keep_13 rfl ?_
  refine xt_aload_n C dX0_keep_14 rfl ?_
  refine xt_cVNn C mv_X1_copy lkX0_29 (ct_copy (Or.inr (Or.inr ⟨nx, hn8, rfl⟩)) (Or.inl rfl) (by omega)) rfl (xt_pid_N (Or.inr (Or.inr ⟨nx, hn8, rfl⟩))).1 (xt_cellP (Or.inr (Or.inr ⟨nx, hn8, rfl⟩))) rfl (by decide) rfl (Nat.le_of_ble_eq_true rfl) dX0_keep_15 ?_
  refine xt_aload_n C dX0_keep_18 rfl ?_
  refine xt_aload_n C dX0_keep_19 rfl ?_
  refine xt_get (f := 1) C xt_u0 rfl (by decide) (xt_cl7 _ _) (by decide) lkX0_18 (xt_vI ((xt_cp_o (by omega)).trans hnx)) dX0_keep_20 ?_
  refine xt_iconst (v := nI 1) C dX0_keep_23 rfl ?_
  refine xt_iaddN C dX0_keep_24 ?_
  refine xt_bipush (v := nI 8) C dX0_keep_25 (by decide) ?_
  refine xt_icmp_geN (tgt := 39) C dX0_keep_27 (by decide) (by omega) (by omega) (fun c27 => ?_) (fun c27 => ?_)
  · refine xt_iconst (v := nI 0) C dX0_keep_39 rfl ?_
    refine xt_put (f := 1) C xt_u0 rfl (by decide) (xt_cl7 _ _) (by decide) tyX0 tyX0_ok nmX0 lkX0_18 rfl (tyX0_ok 1 (by decide)) rfl rfl (Nat.le_of_ble_eq_true rfl) rfl dX0_keep_40 ?_
    refine xt_aload_n C dX0_keep_43 rfl ?_
    refine xt_aload_n C dX0_keep_44 rfl ?_
    refine xt_get (f := 2) C xt_u0 rfl (by decide) (xt_cl7 _ _) (by decide) lkX0_22 (xt_vI ((xt_cp_o (by omega)).trans hkp)) dX0_keep_45 ?_
    refine xt_iconst (v := nI 1) C dX0_keep_48 rfl ?_
    refine xt_iaddN C dX0_keep_49 ?_
    refine xt_bipush (v := nI 8) C dX0_keep_50 (by decide) ?_
    refine xt_mmin C lkX0_33 mw_min rfl ⟨by decide, Nat.le_of_ble_eq_true rfl, by decide, by decide⟩ dX0_keep_52 ?_
    rw [xt_min (by omega) (by omega)]
    refine xt_put (f := 2) C xt_u0 rfl (by decide) (xt_cl7 _ _) (by decide) tyX0 tyX0_ok nmX0 lkX0_22 rfl (tyX0_ok 2 (by decide)) rfl rfl (Nat.le_of_ble_eq_true rfl) rfl dX0_keep_55 ?_
    exact xt_vret C dX0_keep_58 ⟨by decide, by decide⟩ (by unfold xt_keep; first | (rw [if_pos c27]; exact ⟨rfl, rfl⟩) | (rw [if_neg (Nat.not_lt.mpr c27)]; exact ⟨rfl, rfl⟩))
  · refine xt_aload_n C dX0_keep_30 rfl ?_
    refine xt_get (f := 1) C xt_u0 rfl (by decide) (xt_cl7 _ _) (by decide) lkX0_18 (xt_vI ((xt_cp_o (by omega)).trans hnx)) dX0_keep_31 ?_
    refine xt_iconst (v := nI 1) C dX0_keep_34 rfl ?_
    refine xt_iaddN C dX0_keep_35 ?_
    refine xt_goto (tgt := 40) C dX0_keep_36 (by decide) ?_
    refine xt_put (f := 1) C xt_u0 rfl (by decide) (xt_cl7 _ _) (by decide) tyX0 tyX0_ok nmX0 lkX0_18 rfl (tyX0_ok 1 (by decide)) rfl rfl (Nat.le_of_ble_eq_true rfl) rfl dX0_keep_40 ?_
    refine xt_aload_n C dX0_keep_43 rfl ?_
    refine xt_aload_n C dX0_keep_44 rfl ?_
    refine xt_get (f := 2) C xt_u0 rfl (by decide) (xt_cl7 _ _) (by decide) lkX0_22 (xt_vI ((xt_cp_o (by omega)).trans hkp)) dX0_keep_45 ?_
    refine xt_iconst (v := nI 1) C dX0_keep_48 rfl ?_
    refine xt_iaddN C dX0_keep_49 ?_
    refine xt_bipush (v := nI 8) C dX0_keep_50 (by decide) ?_
    refine xt_mmin C lkX0_33 mw_min rfl ⟨by decide, Nat.le_of_ble_eq_true rfl, by decide, by decide⟩ dX0_keep_52 ?_
    rw [xt_min (by omega) (by omega)]
    refine xt_put (f := 2) C xt_u0 rfl (by decide) (xt_cl7 _ _) (by decide) tyX0 tyX0_ok nmX0 lkX0_22 rfl (tyX0_ok 2 (by decide)) rfl rfl (Nat.le_of_ble_eq_true rfl) rfl dX0_keep_55 ?_
    exact xt_vret C dX0_keep_58 ⟨by decide, by decide⟩ (by unfold xt_keep; first | (rw [if_pos c27]; exact ⟨rfl, rfl⟩) | (rw [if_neg (Nat.not_lt.mpr c27)]; exact ⟨rfl, rfl⟩))
set_option maxRecDepth 20000 in
set_option maxHeartbeats 2000000 in
theorem ct_takeBack {nx kp : Nat} (hnx : S.1 7 1 = nI nx) (hkp : S.1 7 2 = nI kp) (hn8 : nx < 8) (hk8 : kp ≤ 8) (hk1 : 0 < kp) : xt_Ct E l yX0_takeBack cX0_takeBack 3 none 2 44 0 0 [.ref (E.1 7), .ref (E.1 1)] S (xt_Eq none (xt_back S nx kp)) := by
  refine xt_body (by decide +kernel) (xt_all rfl) (Nat.le_of_ble_eq_true rfl) (fun cx C hl9 => ?_)
  show xt_X E cx _ 0 0 0 [some (.ref (E.1 7)), some (.ref (E.1 1)), none] [] S
  refine xt_aload_n C dX0_takeBack_0 rfl ?_
  refine xt_aload_n C dX0_takeBack_1 rfl ?_
  refine xt_get (f := 1) C xt_u0 rfl (by decide) (xt_cl7 _ _) (by decide) lkX0_18 (xt_vI hnx) dX0_takeBack_2 ?_
  refine xt_if_leN (tgt := 17) C dX0_takeBack_5 (by decide) (by omega) (fun c5 => ?_) (fun c5 => ?_)
  · refine xt_bipush (v := nI 7) C dX0_takeBack_17 (by decide) ?_
    refine xt_put (f := 1) C xt_u0 rfl (by decide) (xt_cl7 _ _) (by decide) tyX0 tyX0_ok nmX0 lkX0_18 rfl (tyX0_ok 1 (by decide)) rfl rfl (Nat.le_of_ble_eq_true rfl) rfl dX0_takeBack_19 ?_
    refine xt_aload_n C dX0_takeBack_22 rfl ?_
    refine xt_aload_n C dX0_takeBack_23 rfl ?_
    refine xt_get (f := 2) C xt_u0 rfl (by decide) (xt_cl7 _ _) (by decide) lkX0_22 (xt_vI hkp) dX0_takeBack_24 ?_
    refine xt_iconst (v := nI 1) C dX0_takeBack_27 rfl ?_
    refine xt_isubN C dX0_takeBack_28 (by omega) ?_
    refine xt_iconst (v := nI 0) C dX0_takeBack_29 rfl ?_
    refine xt_mmax C lkX0_39 mw_max rfl ⟨by decide, Nat.le_of_ble_eq_true rfl, by decide, by decide⟩ dX0_takeBack_30 ?_
    rw [xt_max (by omega) (by omega)]
    refine xt_put (f := 2) C xt_u0 rfl (by decide) (xt_cl7 _ _) (by decide) tyX0 tyX0_ok nmX0 lkX0_22 rfl (tyX0_ok 2 (by decide)) rfl rfl (Nat.le_of_ble_eq_true rfl) rfl dX0_takeBack_33 ?_
    refine xt_aload_n C dX0_takeBack_36 rfl ?_
    refine xt_aload_n C dX0_takeBack_37 rfl ?_
    refine xt_get (f := 1) C xt_u0 rfl (by decide) (xt_cl7 _ _) (by decide) lkX0_18 (v := .int (nI 7)) rfl dX0_takeBack_38 ?_
    refine xt_cV C mv_X0_pictureAt lkX0_25 (ct_pictureAt (j := 7) (by omega)) rfl (by decide) (xt_cl7 _ _) rfl (by decide) rfl (Nat.le_of_ble_eq_true rfl) dX0_takeBack_41 ?_
    refine xt_astore_n (lo' := [_, _, _]) C dX0_takeBack_44 (Nat.le_of_ble_eq_true rfl) rfl rfl ?_
    refine xt_aload_n C dX0_takeBack_45 rfl ?_
    refine xt_ifnull C dX0_takeBack_46 ?_
    refine xt_aload_n C dX0_takeBack_49 rfl ?_
    refine xt_aload_n C dX0_takeBack_50 rfl ?_
    refine xt_cVNn C mv_X1_copy lkX0_29 (ct_copy (Or.inl rfl) (Or.inr (Or.inr ⟨7, by omega, rfl⟩)) (by omega)) rfl (by decide) (xt_cl1 _ _) rfl (by decide) rfl (Nat.le_of_ble_eq_true rfl) dX0_takeBack_51 ?_
    exact xt_vret C dX0_takeBack_54 ⟨by decide, by decide⟩ (by unfold xt_back; rw [if_neg (show ¬ 0 < nx by omega)]; exact ⟨rfl, rfl⟩)
  · refine xt_aload_n C dX0_takeBack_8 rfl ?_
    refine xt_get (f := 1) C xt_u0 rfl (by decide) (xt_cl7 _ _) (by decide) lkX0_18 (xt_vI hnx) dX0_takeBack_9 ?_
    refine xt_iconst (v := nI 1) C dX0_takeBack_12 rfl ?_
    refine xt_isubN C dX0_takeBack_13 (by omega) ?_
    refine xt_goto (tgt := 19) C dX0_takeBack_14 (by decide) ?_
    refine xt_put (f := 1) C xt_u0 rfl (by decide) (xt_cl7 _ _) (by decide) tyX0 tyX0_ok nmX0 lkX0_18 rfl (tyX0_ok 1 (by decide)) rfl rfl (Nat.le_of_ble_eq_true rfl) rfl dX0_takeBack_19 ?_
    refine xt_aload_n C dX0_takeBack_22 rfl ?_
    refine xt_aload_n C dX0_takeBack_23 rfl ?_
    refine xt_get (f := 2) C xt_u0 rfl (by decide) (xt_cl7 _ _) (by decide) lkX0_22 (xt_vI hkp) dX0_takeBack_24 ?_
    refine xt_iconst (v := nI 1) C dX0_takeBack_27 rfl ?_
    refine xt_isubN C dX0_takeBack_28 (by omega) ?_
    refine xt_iconst (v := nI 0) C dX0_takeBack_29 rfl ?_
    refine xt_mmax C lkX0_39 mw_max rfl ⟨by decide, Nat.le_of_ble_eq_true rfl, by decide, by decide⟩ dX0_takeBack_30 ?_
    rw [xt_max (by omega) (by omega)]
    refine xt_put (f := 2) C xt_u0 rfl (by decide) (xt_cl7 _ _) (by decide) tyX0 tyX0_ok nmX0 lkX0_22 rfl (tyX0_ok 2 (by decide)) rfl rfl (Nat.le_of_ble_eq_true rfl) rfl dX0_takeBack_33 ?_
    refine xt_aload_n C dX0_takeBack_36 rfl ?_
    refine xt_aload_n C dX0_takeBack_37 rfl ?_
    refine xt_get (f := 1) C xt_u0 rfl (by decide) (xt_cl7 _ _) (by decide) lkX0_18 (v := .int (nI (nx - 1))) rfl dX0_takeBack_38 ?_
    refine xt_cV C mv_X0_pictureAt lkX0_25 (ct_pictureAt (j := (nx - 1)) (by omega)) rfl (by decide) (xt_cl7 _ _) rfl (by decide) rfl (Nat.le_of_ble_eq_true rfl) dX0_takeBack_41 ?_
    refine xt_astore_n (lo' := [_, _, _]) C dX0_takeBack_44 (Nat.le_of_ble_eq_true rfl) rfl rfl ?_
    refine xt_aload_n C dX0_takeBack_45 rfl ?_
    refine xt_ifnull C dX0_takeBack_46 ?_
    refine xt_aload_n C dX0_takeBack_49 rfl ?_
    refine xt_aload_n C dX0_takeBack_50 rfl ?_
    refine xt_cVNn C mv_X1_copy lkX0_29 (ct_copy (Or.inl rfl) (Or.inr (Or.inr ⟨(nx - 1), by omega, rfl⟩)) (by omega)) rfl (by decide) (xt_cl1 _ _) rfl (by decide) rfl (Nat.le_of_ble_eq_true rfl) dX0_takeBack_51 ?_
    exact xt_vret C dX0_takeBack_54 ⟨by decide, by decide⟩ (by unfold xt_back; rw [if_pos (show 0 < nx by omega)]; exact ⟨rfl, rfl⟩)
end XC6
