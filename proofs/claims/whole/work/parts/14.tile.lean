/-! THE TILE: WHAT IS KNOWN OF ITS PLACES -/
section XC7
variable {E : xt_Ev} {l : Launch} {S : xt_St}
def xt_lo (n k : Nat) : Nat := (n + 2 ^ k - 1) / 2 ^ k
theorem xt_2k {k : Nat} (h : k ≤ 4) : 1 ≤ 2 ^ k ∧ 2 ^ k ≤ 16 := by
  match k, h with
  | 0, _ => decide
  | 1, _ => decide
  | 2, _ => decide
  | 3, _ => decide
  | 4, _ => decide
theorem xt_lo_le {n k : Nat} (hk : k ≤ 4) : xt_lo n k ≤ n := by
  unfold xt_lo
  match k, hk with
  | 0, _ => simp
  | 1, _ => omega
  | 2, _ => omega
  | 3, _ => omega
  | 4, _ => omega
/-- the level of a place: the first one where it is high, 0: smooth -/
def xt_lev (dp w h x y : Nat) : Nat := if 1 ≤ dp ∧ (xt_lo w 1 ≤ x ∨ xt_lo h 1 ≤ y) then 1 else if 2 ≤ dp ∧ (xt_lo w 2 ≤ x ∨ xt_lo h 2 ≤ y) then 2 else if 3 ≤ dp ∧ (xt_lo w 3 ≤ x ∨ xt_lo h 3 ≤ y) then 3 else 0
theorem xt_lev_le {dp w h x y : Nat} (hd : dp ≤ 3) : xt_lev dp w h x y ≤ dp := by
  unfold xt_lev
  split
  · omega
  · split
    · omega
    · split <;> omega
theorem xt_lev_at {dp w h x y j : Nat} (h1 : 1 ≤ j) (h2 : j ≤ dp) (h3 : xt_lo w j ≤ x ∨ xt_lo h j ≤ y) (hd : dp ≤ 3) (ha : ∀ i, 1 ≤ i → i < j → x < xt_lo w i ∧ y < xt_lo h i) : xt_lev dp w h x y = j := by
  unfold xt_lev
  have hj : j = 1 ∨ j = 2 ∨ j = 3 := by omega
  rcases hj with rfl | rfl | rfl
  · rw [if_pos ⟨h2, h3⟩]
  · have a1 := ha 1 (by omega) (by omega)
    rw [if_neg (by omega), if_pos ⟨h2, h3⟩]
  · have a1 := ha 1 (by omega) (by omega)
    have a2 := ha 2 (by omega) (by omega)
    rw [if_neg (by omega), if_neg (by omega), if_pos ⟨h2, h3⟩]
theorem xt_lev_0 {dp w h x y : Nat} (ha : ∀ i, 1 ≤ i → i ≤ dp → x < xt_lo w i ∧ y < xt_lo h i) : xt_lev dp w h x y = 0 := by
  unfold xt_lev
  rw [if_neg, if_neg, if_neg]
  · rintro ⟨z, z2⟩; have := ha 3 (by omega) z; omega
  · rintro ⟨z, z2⟩; have := ha 2 (by omega) z; omega
  · rintro ⟨z, z2⟩; have := ha 1 (by omega) z; omega
/-- across a direction: whether it is high there, and the column (row) in the band -/
def xt_kx (w lv x : Nat) : Nat := if 0 < lv ∧ xt_lo w lv ≤ x then 1 else 0
def xt_bx (w lv x : Nat) : Nat := if 0 < lv ∧ xt_lo w lv ≤ x then x - xt_lo w lv else x
def xt_par (dp w h lv kd bc br : Nat) : Int32 := if lv = 0 then -1 else if lv = dp then nI (8 * br + bc) else
  if bc / 2 + (if kd % 2 = 1 then xt_lo w (lv + 1) else 0) < xt_lo w lv ∧ br / 2 + (if 2 ≤ kd then xt_lo h (lv + 1) else 0) < xt_lo h lv then nI (8 * (br / 2 + (if 2 ≤ kd then xt_lo h (lv + 1) else 0)) + (bc / 2 + (if kd % 2 = 1 then xt_lo w (lv + 1) else 0))) else -1
theorem xt_and1 {a : Nat} (h : a < 4) : nI a &&& nI 1 = nI (a % 2) := by
  match a, h with
  | 0, _ => decide
  | 1, _ => decide
  | 2, _ => decide
  | 3, _ => decide
theorem xt_and2 {a : Nat} (h : a < 4) : nI a &&& nI 2 = nI (a / 2 * 2) := by
  match a, h with
  | 0, _ => decide
  | 1, _ => decide
  | 2, _ => decide
  | 3, _ => decide
/-- the numbers of a tile at work -/
def xt_Tn (S : xt_St) (lf tp w h dp bo : Nat) : Prop := S.1 33 0 = nI lf ∧ S.1 33 1 = nI tp ∧ S.1 33 2 = nI w ∧ S.1 33 3 = nI h ∧ S.1 33 4 = nI dp ∧ S.1 33 5 = nI bo ∧ (w ≤ 8 ∧ h ≤ 8 ∧ dp ≤ 3 ∧ bo ≤ 8 ∧ lf ≤ 16 ∧ tp ≤ 16)
set_option maxRecDepth 20000 in
set_option maxHeartbeats 2000000 in
theorem ct_lows {a k : Nat} (ha : a ≤ 64) (hk : k ≤ 4) : xt_Ct E l yX4_lows cX4_lows 2 (some Jvm.ClassFile.FieldType.int) 0 0 0 0 [.int (nI a), .int (nI k)] S (xt_Eq (some (.int (nI (xt_lo a k)))) S) := by
  refine xt_body (by decide +kernel) (xt_all rfl) (Nat.le_of_ble_eq_true rfl) (fun cx C hl9 => ?_)
  show xt_X E cx _ 0 0 0 [some (.int (nI a)), some (.int (nI k))] [] S
  have hk2 := xt_2k hk
  refine xt_iload_n C dX4_lows_0 rfl ?_
  refine xt_iconst (v := nI 1) C dX4_lows_1 rfl ?_
  refine xt_iload_n C dX4_lows_2 rfl ?_
  refine xt_ishlN C dX4_lows_3 (by omega) (by omega) ?_
  refine xt_iaddN C dX4_lows_4 ?_
  refine xt_iconst (v := nI 1) C dX4_lows_5 rfl ?_
  refine xt_isubN C dX4_lows_6 (by omega) ?_
  refine xt_iload_n C dX4_lows_7 rfl ?_
  refine xt_ishrN C dX4_lows_8 (by omega) (by omega) ?_
  exact xt_iret C dX4_lows_9 ⟨by decide, by decide⟩ (xt_qI (by rw [Nat.one_mul]; rfl))
set_option maxRecDepth 20000 in
set_option maxHeartbeats 2000000 in
theorem ct_levelAt {lf tp w h dp bo : Nat} (hT : xt_Tn S lf tp w h dp bo) {x y : Nat} (hx : x < 8) (hy : y < 8) : xt_Ct E l yX4_levelAt cX4_levelAt 4 (some Jvm.ClassFile.FieldType.int) 1 21 0 0 [.ref (E.1 33), .int (nI x), .int (nI y)] S (xt_Eq (some (.int (nI (xt_lev dp w h x y)))) S) := by
  refine xt_body (by decide +kernel) (xt_all rfl) (Nat.le_of_ble_eq_true rfl) (fun cx C hl9 => ?_)
  show xt_X E cx _ 0 0 0 [some (.ref (E.1 33)), some (.int (nI x)), some (.int (nI y)), none] [] S
  have hT9 := hT
  obtain ⟨t0, t1, t2, t3, t4, t5, g1, g2, g3, g4, g5, g6⟩ := hT
  have loop : ∀ (d j : Nat), j ≤ 4 → 1 ≤ j → (∀ i, 1 ≤ i → i < j → x < xt_lo w i ∧ y < xt_lo h i) → 4 + 1 ≤ j + d → xt_X E cx (xt_ZM E cx 0 0 (xt_Eq (some (.int (nI (xt_lev dp w h x y)))) S)) 0 0 2 [some (.ref (E.1 33)), some (.int (nI x)), some (.int (nI y)), some (.int (nI j))] [] S := by
    intro d
    induction d with
    | zero => intro j  h0j h0a hall h1j; exact absurd h1j (by omega)
    | succ d ih =>
      intro j  h0j h0a hall h1j
      refine xt_iload_n C dX4_levelAt_2 rfl ?_
      refine xt_aload_n C dX4_levelAt_3 rfl ?_
      refine xt_get (f := 4) C xt_u4 rfl (by decide) (xt_cl33 _ _) (by decide) lkX4_68 (xt_vI t4) dX4_levelAt_4 ?_
      refine xt_icmp_gtN (tgt := 42) C dX4_levelAt_7 (by decide) (by omega) (by omega) (fun c7 => ?_) (fun c7 => ?_)
      · refine xt_iconst (v := nI 0) C dX4_levelAt_42 rfl ?_
        exact xt_iret C dX4_levelAt_43 ⟨by decide, by decide⟩ (xt_qI (by rw [xt_lev_0 (fun i z1 z2 => hall i z1 (by omega))]))
      · have l1 := xt_lo_le (n := w) (k := j) (by omega)
        have l2 := xt_lo_le (n := h) (k := j) (by omega)
        refine xt_iload_n C dX4_levelAt_10 rfl ?_
        refine xt_aload_n C dX4_levelAt_11 rfl ?_
        refine xt_get (f := 2) C xt_u4 rfl (by decide) (xt_cl33 _ _) (by decide) lkX4_55 (xt_vI t2) dX4_levelAt_12 ?_
        refine xt_iload_n C dX4_levelAt_15 rfl ?_
        refine xt_cS C ms_X4_lows lkX4_74 (ct_lows (by omega) (by omega)) rfl (by decide) rfl (Nat.le_of_ble_eq_true rfl) dX4_levelAt_16 ?_
        refine xt_icmp_geN (tgt := 34) C dX4_levelAt_19 (by decide) (by omega) (by omega) (fun c19 => ?_) (fun c19 => ?_)
        · refine xt_iload_n C dX4_levelAt_34 rfl ?_
          exact xt_iret C dX4_levelAt_35 ⟨by decide, by decide⟩ (xt_qI (by rw [xt_lev_at h0a (by omega) (by first | exact Or.inl c19 | exact Or.inr (by omega)) g3 hall]))
        · refine xt_iload_n C dX4_levelAt_22 rfl ?_
          refine xt_aload_n C dX4_levelAt_23 rfl ?_
          refine xt_get (f := 3) C xt_u4 rfl (by decide) (xt_cl33 _ _) (by decide) lkX4_61 (xt_vI t3) dX4_levelAt_24 ?_
          refine xt_iload_n C dX4_levelAt_27 rfl ?_
          refine xt_cS C ms_X4_lows lkX4_74 (ct_lows (by omega) (by omega)) rfl (by decide) rfl (Nat.le_of_ble_eq_true rfl) dX4_levelAt_28 ?_
          refine xt_icmp_ltN (tgt := 36) C dX4_levelAt_31 (by decide) (by omega) (by omega) (fun c31 => ?_) (fun c31 => ?_)
          · refine xt_iincN (z := 1) (lo' := [_, _, _, _]) C dX4_levelAt_36 rfl rfl rfl ?_
            refine xt_goto (tgt := 2) C dX4_levelAt_39 (by decide) ?_
            exact ih (j + 1) (by omega) (by omega) (fun i z1 z2 => by rcases Nat.lt_succ_iff_lt_or_eq.mp z2 with z | rfl; exact hall i z1 z; exact ⟨by omega, by omega⟩) (by omega)
          · refine xt_iload_n C dX4_levelAt_34 rfl ?_
            exact xt_iret C dX4_levelAt_35 ⟨by decide, by decide⟩ (xt_qI (by rw [xt_lev_at h0a (by omega) (by first | exact Or.inl c19 | exact Or.inr (by omega)) g3 hall]))
  refine xt_iconst (v := nI 1) C dX4_levelAt_0 rfl ?_
  refine xt_istore_n (lo' := [_, _, _, _]) C dX4_levelAt_1 (Nat.le_of_ble_eq_true rfl) rfl rfl ?_
  exact loop (4 + 1) 1 (by omega) (by omega) (fun i z1 z2 => by omega) (by omega)
set_option maxRecDepth 20000 in
set_option maxHeartbeats 2000000 in
theorem ct_parentOf {lf tp w h dp bo : Nat} (hT : xt_Tn S lf tp w h dp bo) {lv kd bc br : Nat} (hlv : lv ≤ dp) (hkd : kd < 4) (hbc : bc < 8) (hbr : br < 8) : xt_Ct E l yX4_parentOf cX4_parentOf 7 (some Jvm.ClassFile.FieldType.int) 1 21 0 0 [.ref (E.1 33), .int (nI lv), .int (nI kd), .int (nI bc), .int (nI br)] S (xt_Eq (some (.int (xt_par dp w h lv kd bc br))) S) := by
  refine xt_body (by decide +kernel) (xt_all rfl) (Nat.le_of_ble_eq_true rfl) (fun cx C hl9 => ?_)
  show xt_X E cx _ 0 0 0 [some (.ref (E.1 33)), some (.int (nI lv)), some (.int (nI kd)), some (.int (nI bc)), some (.int (nI br)), none, none] [] S
  have hT9 := hT
  obtain ⟨t0, t1, t2, t3, t4, t5, g1, g2, g3, g4, g5, g6⟩ := hT
  have l1 := xt_lo_le (n := w) (k := lv) (by omega)
  have l2 := xt_lo_le (n := h) (k := lv) (by omega)
  refine xt_iload_n C dX4_parentOf_0 rfl ?_
  refine xt_if_neN (tgt := 6) C dX4_parentOf_1 (by decide) (by omega) (fun c1 => ?_) (fun c1 => ?_)
  · refine xt_iload_n C dX4_parentOf_6 rfl ?_
    refine xt_aload_n C dX4_parentOf_7 rfl ?_
    refine xt_get (f := 4) C xt_u4 rfl (by decide) (xt_cl33 _ _) (by decide) lkX4_68 (xt_vI t4) dX4_parentOf_8 ?_
    refine xt_icmp_neN (tgt := 21) C dX4_parentOf_11 (by decide) (by omega) (by omega) (fun c11 => ?_) (fun c11 => ?_)
    · refine xt_iload_n C dX4_parentOf_21 rfl ?_
      refine xt_iconst (v := nI 1) C dX4_parentOf_22 rfl ?_
      refine xt_ishrN C dX4_parentOf_23 (by omega) (by omega) ?_
      refine xt_iload_n C dX4_parentOf_24 rfl ?_
      refine xt_iconst (v := nI 1) C dX4_parentOf_25 rfl ?_
      refine xt_iand C dX4_parentOf_26 ?_
      rw [xt_and1 hkd]
      refine xt_if_eqN (tgt := 43) C dX4_parentOf_27 (by decide) (by omega) (fun c27 => ?_) (fun c27 => ?_)
      · refine xt_iconst (v := nI 0) C dX4_parentOf_43 rfl ?_
        refine xt_iaddN C dX4_parentOf_44 ?_
        rw [show bc / 2 ^ 1 + _ = bc / 2 + (if kd % 2 = 1 then xt_lo w (lv + 1) else 0) from by first | rw [if_pos (by omega)] | rw [if_neg (by omega)]]
        generalize hcx : bc / 2 + (if kd % 2 = 1 then xt_lo w (lv + 1) else 0) = cx9
        have hcx9 : cx9 ≤ 16 := by rw [← hcx]; have := xt_lo_le (n := w) (k := lv + 1) (by omega); split <;> omega
        refine xt_istore (lo' := [_, _, _, _, _, _, _]) C dX4_parentOf_45 (Nat.le_of_ble_eq_true rfl) rfl rfl ?_
        refine xt_iload C dX4_parentOf_47 rfl ?_
        refine xt_iconst (v := nI 1) C dX4_parentOf_49 rfl ?_
        refine xt_ishrN C dX4_parentOf_50 (by omega) (by omega) ?_
        refine xt_iload_n C dX4_parentOf_51 rfl ?_
        refine xt_iconst (v := nI 2) C dX4_parentOf_52 rfl ?_
        refine xt_iand C dX4_parentOf_53 ?_
        rw [xt_and2 hkd]
        refine xt_if_eqN (tgt := 70) C dX4_parentOf_54 (by decide) (by omega) (fun c54 => ?_) (fun c54 => ?_)
        · refine xt_iconst (v := nI 0) C dX4_parentOf_70 rfl ?_
          refine xt_iaddN C dX4_parentOf_71 ?_
          rw [show br / 2 ^ 1 + _ = br / 2 + (if 2 ≤ kd then xt_lo h (lv + 1) else 0) from by first | rw [if_pos (by omega)] | rw [if_neg (by omega)]]
          generalize hcy : br / 2 + (if 2 ≤ kd then xt_lo h (lv + 1) else 0) = cy9
          have hcy9 : cy9 ≤ 16 := by rw [← hcy]; have := xt_lo_le (n := h) (k := lv + 1) (by omega); split <;> omega
          refine xt_istore (lo' := [_, _, _, _, _, _, _]) C dX4_parentOf_72 (Nat.le_of_ble_eq_true rfl) rfl rfl ?_
          refine xt_iload C dX4_parentOf_74 rfl ?_
          refine xt_aload_n C dX4_parentOf_76 rfl ?_
          refine xt_get (f := 2) C xt_u4 rfl (by decide) (xt_cl33 _ _) (by decide) lkX4_55 (xt_vI t2) dX4_parentOf_77 ?_
          refine xt_iload_n C dX4_parentOf_80 rfl ?_
          refine xt_cS C ms_X4_lows lkX4_74 (ct_lows (by omega) (by omega)) rfl (by decide) rfl (Nat.le_of_ble_eq_true rfl) dX4_parentOf_81 ?_
          refine xt_icmp_geN (tgt := 110) C dX4_parentOf_84 (by decide) (by omega) (by omega) (fun c84 => ?_) (fun c84 => ?_)
          · refine xt_iconst (v := -1) C dX4_parentOf_110 rfl ?_
            exact xt_iret C dX4_parentOf_111 ⟨by decide, by decide⟩ (xt_qI (by unfold xt_par; rw [if_neg (by omega), if_neg (by assumption), hcx, hcy]; first | rw [if_pos (by omega)] | rw [if_neg (by omega)]))
          · refine xt_iload C dX4_parentOf_87 rfl ?_
            refine xt_aload_n C dX4_parentOf_89 rfl ?_
            refine xt_get (f := 3) C xt_u4 rfl (by decide) (xt_cl33 _ _) (by decide) lkX4_61 (xt_vI t3) dX4_parentOf_90 ?_
            refine xt_iload_n C dX4_parentOf_93 rfl ?_
            refine xt_cS C ms_X4_lows lkX4_74 (ct_lows (by omega) (by omega)) rfl (by decide) rfl (Nat.le_of_ble_eq_true rfl) dX4_parentOf_94 ?_
            refine xt_icmp_geN (tgt := 110) C dX4_parentOf_97 (by decide) (by omega) (by omega) (fun c97 => ?_) (fun c97 => ?_)
            · refine xt_iconst (v := -1) C dX4_parentOf_110 rfl ?_
              exact xt_iret C dX4_parentOf_111 ⟨by decide, by decide⟩ (xt_qI (by unfold xt_par; rw [if_neg (by omega), if_neg (by assumption), hcx, hcy]; first | rw [if_pos (by omega)] | rw [if_neg (by omega)]))
            · refine xt_iload C dX4_parentOf_100 rfl ?_
              refine xt_iload C dX4_parentOf_102 rfl ?_
              refine xt_cSN C ms_X5_placeOf lkX4_88 ct_place rfl (by decide) rfl (Nat.le_of_ble_eq_true rfl) dX4_parentOf_104 ?_
              refine xt_goto (tgt := 111) C dX4_parentOf_107 (by decide) ?_
              exact xt_iret C dX4_parentOf_111 ⟨by decide, by decide⟩ (xt_qI (by unfold xt_par; rw [if_neg (by omega), if_neg (by assumption), hcx, hcy]; first | rw [if_pos (by omega)] | rw [if_neg (by omega)]))
        · refine xt_aload_n C dX4_parentOf_57 rfl ?_
          refine xt_get (f := 3) C xt_u4 rfl (by decide) (xt_cl33 _ _) (by decide) lkX4_61 (xt_vI t3) dX4_parentOf_58 ?_
          refine xt_iload_n C dX4_parentOf_61 rfl ?_
          refine xt_iconst (v := nI 1) C dX4_parentOf_62 rfl ?_
          refine xt_iaddN C dX4_parentOf_63 ?_
          refine xt_cS C ms_X4_lows lkX4_74 (ct_lows (by omega) (by omega)) rfl (by decide) rfl (Nat.le_of_ble_eq_true rfl) dX4_parentOf_64 ?_
          refine xt_goto (tgt := 71) C dX4_parentOf_67 (by decide) ?_
          refine xt_iaddN C dX4_parentOf_71 ?_
          rw [show br / 2 ^ 1 + _ = br / 2 + (if 2 ≤ kd then xt_lo h (lv + 1) else 0) from by first | rw [if_pos (by omega)] | rw [if_neg (by omega)]]
          generalize hcy : br / 2 + (if 2 ≤ kd then xt_lo h (lv + 1) else 0) = cy9
          have hcy9 : cy9 ≤ 16 := by rw [← hcy]; have := xt_lo_le (n := h) (k := lv + 1) (by omega); split <;> omega
          refine xt_istore (lo' := [_, _, _, _, _, _, _]) C dX4_parentOf_72 (Nat.le_of_ble_eq_true rfl) rfl rfl ?_
          refine xt_iload C dX4_parentOf_74 rfl ?_
          refine xt_aload_n C dX4_parentOf_76 rfl ?_
          refine xt_get (f := 2) C xt_u4 rfl (by decide) (xt_cl33 _ _) (by decide) lkX4_55 (xt_vI t2) dX4_parentOf_77 ?_
          refine xt_iload_n C dX4_parentOf_80 rfl ?_
          refine xt_cS C ms_X4_lows lkX4_74 (ct_lows (by omega) (by omega)) rfl (by decide) rfl (Nat.le_of_ble_eq_true rfl) dX4_parentOf_81 ?_
          refine xt_icmp_geN (tgt := 110) C dX4_parentOf_84 (by decide) (by omega) (by omega) (fun c84 => ?_) (fun c84 => ?_)
          · refine xt_iconst (v := -1) C dX4_parentOf_110 rfl ?_
            exact xt_iret C dX4_parentOf_111 ⟨by decide, by decide⟩ (xt_qI (by unfold xt_par; rw [if_neg (by omega), if_neg (by assumption), hcx, hcy]; first | rw [if_pos (by omega)] | rw [if_neg (by omega)]))
          · refine xt_iload C dX4_parentOf_87 rfl ?_
            refine xt_aload_n C dX4_parentOf_89 rfl ?_
            refine xt_get (f := 3) C xt_u4 rfl (by decide) (xt_cl33 _ _) (by decide) lkX4_61 (xt_vI t3) dX4_parentOf_90 ?_
            refine xt_iload_n C dX4_parentOf_93 rfl ?_
            refine xt_cS C ms_X4_lows lkX4_74 (ct_lows (by omega) (by omega)) rfl (by decide) rfl (Nat.le_of_ble_eq_true rfl) dX4_parentOf_94 ?_
            refine xt_icmp_geN (tgt := 110) C dX4_parentOf_97 (by decide) (by omega) (by omega) (fun c97 => ?_) (fun c97 => ?_)
            · refine xt_iconst (v := -1) C dX4_parentOf_110 rfl ?_
              exact xt_iret C dX4_parentOf_111 ⟨by decide, by decide⟩ (xt_qI (by unfold xt_par; rw [if_neg (by omega), if_neg (by assumption), hcx, hcy]; first | rw [if_pos (by omega)] | rw [if_neg (by omega)]))
            · refine xt_iload C dX4_parentOf_100 rfl ?_
              refine xt_iload C dX4_parentOf_102 rfl ?_
              refine xt_cSN C ms_X5_placeOf lkX4_88 ct_place rfl (by decide) rfl (Nat.le_of_ble_eq_true rfl) dX4_parentOf_104 ?_
              refine xt_goto (tgt := 111) C dX4_parentOf_107 (by decide) ?_
              exact xt_iret C dX4_parentOf_111 ⟨by decide, by decide⟩ (xt_qI (by unfold xt_par; rw [if_neg (by omega), if_neg (by assumption), hcx, hcy]; first | rw [if_pos (by omega)] | rw [if_neg (by omega)]))
      · refine xt_aload_n C dX4_parentOf_30 rfl ?_
        refine xt_get (f := 2) C xt_u4 rfl (by decide) (xt_cl33 _ _) (by decide) lkX4_55 (xt_vI t2) dX4_parentOf_31 ?_
        refine xt_iload_n C dX4_parentOf_34 rfl ?_
        refine xt_iconst (v := nI 1) C dX4_parentOf_35 rfl ?_
        refine xt_iaddN C dX4_parentOf_36 ?_
        refine xt_cS C ms_X4_lows lkX4_74 (ct_lows (by omega) (by omega)) rfl (by decide) rfl (Nat.le_of_ble_eq_true rfl) dX4_parentOf_37 ?_
        refine xt_goto (tgt := 44) C dX4_parentOf_40 (by decide) ?_
        refine xt_iaddN C dX4_parentOf_44 ?_
        rw [show bc / 2 ^ 1 + _ = bc / 2 + (if kd % 2 = 1 then xt_lo w (lv + 1) else 0) from by first | rw [if_pos (by omega)] | rw [if_neg (by omega)]]
        generalize hcx : bc / 2 + (if kd % 2 = 1 then xt_lo w (lv + 1) else 0) = cx9
        have hcx9 : cx9 ≤ 16 := by rw [← hcx]; have := xt_lo_le (n := w) (k := lv + 1) (by omega); split <;> omega
        refine xt_istore (lo' := [_, _, _, _, _, _, _]) C dX4_parentOf_45 (Nat.le_of_ble_eq_true rfl) rfl rfl ?_
        refine xt_iload C dX4_parentOf_47 rfl ?_
        refine xt_iconst (v := nI 1) C dX4_parentOf_49 rfl ?_
        refine xt_ishrN C dX4_parentOf_50 (by omega) (by omega) ?_
        refine xt_iload_n C dX4_parentOf_51 rfl ?_
        refine xt_iconst (v := nI 2) C dX4_parentOf_52 rfl ?_
        refine xt_iand C dX4_parentOf_53 ?_
        rw [xt_and2 hkd]
        refine xt_if_eqN (tgt := 70) C dX4_parentOf_54 (by decide) (by omega) (fun c54 => ?_) (fun c54 => ?_)
        · refine xt_iconst (v := nI 0) C dX4_parentOf_70 rfl ?_
          refine xt_iaddN C dX4_parentOf_71 ?_
          rw [show br / 2 ^ 1 + _ = br / 2 + (if 2 ≤ kd then xt_lo h (lv + 1) else 0) from by first | rw [if_pos (by omega)] | rw [if_neg (by omega)]]
          generalize hcy : br / 2 + (if 2 ≤ kd then xt_lo h (lv + 1) else 0) = cy9
          have hcy9 : cy9 ≤ 16 := by rw [← hcy]; have := xt_lo_le (n := h) (k := lv + 1) (by omega); split <;> omega
          refine xt_istore (lo' := [_, _, _, _, _, _, _]) C dX4_parentOf_72 (Nat.le_of_ble_eq_true rfl) rfl rfl ?_
          refine xt_iload C dX4_parentOf_74 rfl ?_
          refine xt_aload_n C dX4_parentOf_76 rfl ?_
          refine xt_get (f := 2) C xt_u4 rfl (by decide) (xt_cl33 _ _) (by decide) lkX4_55 (xt_vI t2) dX4_parentOf_77 ?_
          refine xt_iload_n C dX4_parentOf_80 rfl ?_
          refine xt_cS C ms_X4_lows lkX4_74 (ct_lows (by omega) (by omega)) rfl (by decide) rfl (Nat.le_of_ble_eq_true rfl) dX4_parentOf_81 ?_
          refine xt_icmp_geN (tgt := 110) C dX4_parentOf_84 (by decide) (by omega) (by omega) (fun c84 => ?_) (fun c84 => ?_)
          · refine xt_iconst (v := -1) C dX4_parentOf_110 rfl ?_
            exact xt_iret C dX4_parentOf_111 ⟨by decide, by decide⟩ (xt_qI (by unfold xt_par; rw [if_neg (by omega), if_neg (by assumption), hcx, hcy]; first | rw [if_pos (by omega)] | rw [if_neg (by omega)]))
          · refine xt_iload C dX4_parentOf_87 rfl ?_
            refine xt_aload_n C dX4_parentOf_89 rfl ?_
            refine xt_get (f := 3) C xt_u4 rfl (by decide) (xt_cl33 _ _) (by decide) lkX4_61 (xt_vI t3) dX4_parentOf_90 ?_
            refine xt_iload_n C dX4_parentOf_93 rfl ?_
            refine xt_cS C ms_X4_lows lkX4_74 (ct_lows (by omega) (by omega)) rfl (by decide) rfl (Nat.le_of_ble_eq_true rfl) dX4_parentOf_94 ?_
            refine xt_icmp_geN (tgt := 110) C dX4_parentOf_97 (by decide) (by omega) (by omega) (fun c97 => ?_) (fun c97 => ?_)
            · refine xt_iconst (v := -1) C dX4_parentOf_110 rfl ?_
              exact xt_iret C dX4_parentOf_111 ⟨by decide, by decide⟩ (xt_qI (by unfold xt_par; rw [if_neg (by omega), if_neg (by assumption), hcx, hcy]; first | rw [if_pos (by omega)] | rw [if_neg (by omega)]))
            · refine xt_iload C dX4_parentOf_100 rfl ?_
              refine xt_iload C dX4_parentOf_102 rfl ?_
              refine xt_cSN C ms_X5_placeOf lkX4_88 ct_place rfl (by decide) rfl (Nat.le_of_ble_eq_true rfl) dX4_parentOf_104 ?_
              refine xt_goto (tgt := 111) C dX4_parentOf_107 (by decide) ?_
              exact xt_iret C dX4_parentOf_111 ⟨by decide, by decide⟩ (xt_qI (by unfold xt_par; rw [if_neg (by omega), if_neg (by assumption), hcx, hcy]; first | rw [if_pos (by omega)] | rw [if_neg (by omega)]))
        · refine xt_aload_n C dX4_parentOf_57 rfl ?_
          refine xt_get (f := 3) C xt_u4 rfl (by decide) (xt_cl33 _ _) (by decide) lkX4_61 (xt_vI t3) dX4_parentOf_58 ?_
          refine xt_iload_n C dX4_parentOf_61 rfl ?_
          refine xt_iconst (v := nI 1) C dX4_parentOf_62 rfl ?_
          refine xt_iaddN C dX4_parentOf_63 ?_
          refine xt_cS C ms_X4_lows lkX4_74 (ct_lows (by omega) (by omega)) rfl (by decide) rfl (Nat.le_of_ble_eq_true rfl) dX4_parentOf_64 ?_
          refine xt_goto (tgt := 71) C dX4_parentOf_67 (by decide) ?_
          refine xt_iaddN C dX4_parentOf_71 ?_
          rw [show br / 2 ^ 1 + _ = br / 2 + (if 2 ≤ kd then xt_lo h (lv + 1) else 0) from by first | rw [if_pos (by omega)] | rw [if_neg (by omega)]]
          generalize hcy : br / 2 + (if 2 ≤ kd then xt_lo h (lv + 1) else 0) = cy9
          have hcy9 : cy9 ≤ 16 := by rw [← hcy]; have := xt_lo_le (n := h) (k := lv + 1) (by omega); split <;> omega
          refine xt_istore (lo' := [_, _, _, _, _, _, _]) C dX4_parentOf_72 (Nat.le_of_ble_eq_true rfl) rfl rfl ?_
          refine xt_iload C dX4_parentOf_74 rfl ?_
          refine xt_aload_n C dX4_parentOf_76 rfl ?_
          refine xt_get (f := 2) C xt_u4 rfl (by decide) (xt_cl33 _ _) (by decide) lkX4_55 (xt_vI t2) dX4_parentOf_77 ?_
          refine xt_iload_n C dX4_parentOf_80 rfl ?_
          refine xt_cS C ms_X4_lows lkX4_74 (ct_lows (by omega) (by omega)) rfl (by decide) rfl (Nat.le_of_ble_eq_true rfl) dX4_parentOf_81 ?_
          refine xt_icmp_geN (tgt := 110) C dX4_parentOf_84 (by decide) (by omega) (by omega) (fun c84 => ?_) (fun c84 => ?_)
          · refine xt_iconst (v := -1) C dX4_parentOf_110 rfl ?_
            exact xt_iret C dX4_parentOf_111 ⟨by decide, by decide⟩ (xt_qI (by unfold xt_par; rw [if_neg (by omega), if_neg (by assumption), hcx, hcy]; first | rw [if_pos (by omega)] | rw [if_neg (by omega)]))
          · refine xt_iload C dX4_parentOf_87 rfl ?_
            refine xt_aload_n C dX4_parentOf_89 rfl ?_
            refine xt_get (f := 3) C xt_u4 rfl (by decide) (xt_cl33 _ _) (by decide) lkX4_61 (xt_vI t3) dX4_parentOf_90 ?_
            refine xt_iload_n C dX4_parentOf_93 rfl ?_
            refine xt_cS C ms_X4_lows lkX4_74 (ct_lows (by omega) (by omega)) rfl (by decide) rfl (Nat.le_of_ble_eq_true rfl) dX4_parentOf_94 ?_
            refine xt_icmp_geN (tgt := 110) C dX4_parentOf_97 (by decide) (by omega) (by omega) (fun c97 => ?_) (fun c97 => ?_)
            · refine xt_iconst (v := -1) C dX4_parentOf_110 rfl ?_
              exact xt_iret C dX4_parentOf_111 ⟨by decide, by decide⟩ (xt_qI (by unfold xt_par; rw [if_neg (by omega), if_neg (by assumption), hcx, hcy]; first | rw [if_pos (by omega)] | rw [if_neg (by omega)]))
            · refine xt_iload C dX4_parentOf_100 rfl ?_
              refine xt_iload C dX4_parentOf_102 rfl ?_
              refine xt_cSN C ms_X5_placeOf lkX4_88 ct_place rfl (by decide) rfl (Nat.le_of_ble_eq_true rfl) dX4_parentOf_104 ?_
              refine xt_goto (tgt := 111) C dX4_parentOf_107 (by decide) ?_
              exact xt_iret C dX4_parentOf_111 ⟨by decide, by decide⟩ (xt_qI (by unfold xt_par; rw [if_neg (by omega), if_neg (by assumption), hcx, hcy]; first | rw [if_pos (by omega)] | rw [if_neg (by omega)]))
    · refine xt_iload_n C dX4_parentOf_14 rfl ?_
      refine xt_iload C dX4_parentOf_15 rfl ?_
      refine xt_cSN C ms_X5_placeOf lkX4_88 ct_place rfl (by decide) rfl (Nat.le_of_ble_eq_true rfl) dX4_parentOf_17 ?_
      exact xt_iret C dX4_parentOf_20 ⟨by decide, by decide⟩ (xt_qI (by unfold xt_par; rw [if_neg (by omega), if_pos (by assumption)]))
  · refine xt_iconst (v := -1) C dX4_parentOf_4 rfl ?_
    exact xt_iret C dX4_parentOf_5 ⟨by decide, by decide⟩ (xt_qI (by unfold xt_par; rw [if_pos (by assumption)]))
end XC7
