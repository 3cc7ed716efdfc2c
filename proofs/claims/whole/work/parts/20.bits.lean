/-! THE TILE: LAYERS, BITS, TREES -/
section XC13
variable {E : xt_Ev} {l : Launch} {S : xt_St}
noncomputable def xt_n (P : Prop) : Nat := @ite Nat P (Classical.propDecidable P) 1 0
theorem xt_n1 {P : Prop} (h : P) : xt_n P = 1 := by unfold xt_n; exact if_pos h
theorem xt_n0 {P : Prop} (h : ¬ P) : xt_n P = 0 := by unfold xt_n; exact if_neg h
theorem xt_n_le (P : Prop) : xt_n P ≤ 1 := by
  by_cases h : P
  · rw [xt_n1 h]; exact Nat.le_refl _
  · rw [xt_n0 h]; exact Nat.zero_le _
theorem xt_bn (P : Prop) : xt_b P = nI (xt_n P) := by
  by_cases h : P
  · rw [xt_b1 h, xt_n1 h]
  · rw [xt_b0 h, xt_n0 h]
def xt_lay (m bo p : Nat) : Nat := if 0 < m then 8 - p - bo else 8 - p
def xt_mis (m bo n : Nat) : Nat := if n < 1 then 9 else xt_lay m bo 0 + 1 - n
theorem xt_mis_le {m bo n : Nat} : xt_mis m bo n ≤ 9 := by unfold xt_mis xt_lay; split <;> (try split) <;> omega
theorem xt_m0s {a b : Nat} (ha : a < 2 ^ 30) (hb : b < 2 ^ 30) : (if nI 0 < nI a - nI b then nI a - nI b else nI 0) = nI (a - b) := by
  by_cases h : b < a
  · rw [pk_sub (Nat.le_of_lt h), if_pos (nI_lt (by omega) (by omega))]
  · by_cases e : a = b
    · subst e; rw [pk_sub (Nat.le_refl _), Nat.sub_self, if_neg (by decide)]
    · rw [if_neg, Nat.sub_eq_zero_of_le (Nat.le_of_not_lt h)]
      intro z
      exact absurd (pk_sneg hb (by omega)) (Int32.not_lt.mpr (Int32.le_of_lt z))
def xt_bits (a ly : Int32) (m bo : Nat) : Int32 := xt_it (fun p s => if ly = -1 ∨ nI (xt_lay m bo p) = ly then s + (if a >>> (nI p &&& 31) = nI 1 then nI 2 else nI 1) else s) 9 0
def xt_S2 (g : Nat → Nat → Int32) (w h : Nat) : Int32 := xt_it (fun y s => xt_it (fun x s => s + g x y) w s) h 0
noncomputable def xt_ci (P : Prop) (s : Int32) : Int32 := @ite Int32 P (Classical.propDecidable P) (s + 1) s
theorem xt_ci1 {P : Prop} {s : Int32} (h : P) : xt_ci P s = s + 1 := by unfold xt_ci; exact if_pos h
theorem xt_ci0 {P : Prop} {s : Int32} (h : ¬ P) : xt_ci P s = s := by unfold xt_ci; exact if_neg h
noncomputable def xt_N2 (P : Nat → Nat → Prop) (w h : Nat) : Int32 := xt_it (fun y s => xt_it (fun x s => xt_ci (P x y) s) w s) h 0
set_option maxRecDepth 20000 in
set_option maxHeartbeats 2000000 in
theorem ct_countOther {lf tp w h dp bo : Nat} (hT : xt_Tn S lf tp w h dp bo) {a : Nat} (hi : a < xt_NC) (ha : xt_ar E 0 a 64) : xt_Ct E l yX4_countOther cX4_countOther 5 (some Jvm.ClassFile.FieldType.int) 1 21 0 0 [.ref (E.1 33), .ref (E.1 a)] S (xt_Eq (some (.int (xt_N2 (fun x y => (¬ S.2.1 a (8 * y + x) = 0)) w h))) S) := by
  refine xt_body (by decide +kernel) (xt_all rfl) (Nat.le_of_ble_eq_true rfl) (fun cx C hl9 => ?_)
  show xt_X E cx _ 0 0 0 [some (.ref (E.1 33)), some (.ref (E.1 a)), none, none, none] [] S
  have hT9 := hT
  obtain ⟨t0, t1, t2, t3, t4, t5, g1, g2, g3, g4, g5, g6⟩ := hT
  have out1 : ∀ (d1 y : Nat), y ≤ h →  h + 1 ≤ y + d1 → xt_X E cx (xt_ZM E cx 0 0 (xt_Eq (some (.int (xt_N2 (fun x y => (¬ S.2.1 a (8 * y + x) = 0)) w h))) S)) 0 0 4 [some (.ref (E.1 33)), some (.ref (E.1 a)), some (.int (xt_it (fun y s => xt_it (fun x s => xt_ci (¬ S.2.1 a (8 * y + x) = 0) s) w s) y 0)), some (.int (nI y)), none] [] S := by
    intro d1
    induction d1 with
    | zero => intro y  h0y  h1y; exact absurd h1y (by omega)
    | succ d1 ih1 =>
      intro y  h0y  h1y
      refine xt_iload_n C dX4_countOther_4 rfl ?_
      refine xt_aload_n C dX4_countOther_5 rfl ?_
      refine xt_get (f := 3) C xt_u4 rfl (by decide) (xt_cl33 _ _) (by decide) lkX4_61 (xt_vI t3) dX4_countOther_6 ?_
      refine xt_icmp_geN (tgt := 52) C dX4_countOther_9 (by decide) (by omega) (by omega) (fun c9 => ?_) (fun c9 => ?_)
      · refine xt_iload_n C dX4_countOther_52 rfl ?_
        exact xt_iret C dX4_countOther_53 ⟨by decide, by decide⟩ (xt_qI (by rw [show y = h by omega]; rfl))
      · refine xt_iconst (v := nI 0) C dX4_countOther_12 rfl ?_
        refine xt_istore (lo' := [_, _, _, _, _]) C dX4_countOther_13 (Nat.le_of_ble_eq_true rfl) rfl rfl ?_
        have in2 : ∀ (d2 x : Nat), x ≤ w →  w + 1 ≤ x + d2 → xt_X E cx (xt_ZM E cx 0 0 (xt_Eq (some (.int (xt_N2 (fun x y => (¬ S.2.1 a (8 * y + x) = 0)) w h))) S)) 0 0 15 [some (.ref (E.1 33)), some (.ref (E.1 a)), some (.int (xt_it (fun x s => xt_ci (¬ S.2.1 a (8 * y + x) = 0) s) x (xt_it (fun y s => xt_it (fun x s => xt_ci (¬ S.2.1 a (8 * y + x) = 0) s) w s) y 0))), some (.int (nI y)), some (.int (nI x))] [] S := by
          intro d2
          induction d2 with
          | zero => intro x  h0x  h1x; exact absurd h1x (by omega)
          | succ d2 ih2 =>
            intro x  h0x  h1x
            refine xt_iload C dX4_countOther_15 rfl ?_
            refine xt_aload_n C dX4_countOther_17 rfl ?_
            refine xt_get (f := 2) C xt_u4 rfl (by decide) (xt_cl33 _ _) (by decide) lkX4_55 (xt_vI t2) dX4_countOther_18 ?_
            refine xt_icmp_geN (tgt := 46) C dX4_countOther_21 (by decide) (by omega) (by omega) (fun c21 => ?_) (fun c21 => ?_)
            · refine xt_iincN (z := 1) (lo' := [_, _, _, _, _]) C dX4_countOther_46 rfl rfl rfl ?_
              refine xt_goto (tgt := 4) C dX4_countOther_49 (by decide) ?_
              have hx9 : x = w := by omega
              subst hx9
              exact xt_fg (by repeat' constructor) (ih1 (y + 1) (by omega)  (by omega))
            · refine xt_aload_n C dX4_countOther_24 rfl ?_
              refine xt_iload C dX4_countOther_25 rfl ?_
              refine xt_iload_n C dX4_countOther_27 rfl ?_
              refine xt_cSN C ms_X5_placeOf lkX4_88 ct_place rfl (by decide) rfl (Nat.le_of_ble_eq_true rfl) dX4_countOther_28 ?_
              refine xt_cSN C ms_X5_at lkX4_84 (ct_at hi ha (by decide) (by omega) rfl) rfl (by decide) rfl (Nat.le_of_ble_eq_true rfl) dX4_countOther_31 ?_
              refine xt_if_eq (tgt := 40) C dX4_countOther_34 (by decide) (fun c34 => ?_) (fun c34 => ?_)
              · refine xt_iincN (z := 1) (lo' := [_, _, _, _, _]) C dX4_countOther_40 rfl rfl rfl ?_
                refine xt_goto (tgt := 15) C dX4_countOther_43 (by decide) ?_
                have h9 := ih2 (x + 1) (by omega)  (by omega)
                rw [show xt_it (fun x s => xt_ci (¬ S.2.1 a (8 * y + x) = 0) s) (x + 1) (xt_it (fun y s => xt_it (fun x s => xt_ci (¬ S.2.1 a (8 * y + x) = 0) s) w s) y 0) = xt_ci (¬ S.2.1 a (8 * y + x) = 0) (xt_it (fun x s => xt_ci (¬ S.2.1 a (8 * y + x) = 0) s) x (xt_it (fun y s => xt_it (fun x s => xt_ci (¬ S.2.1 a (8 * y + x) = 0) s) w s) y 0)) from rfl] at h9
                first
                | rw [xt_ci1 c34] at h9
                | rw [xt_ci0 (fun z => z c34)] at h9
                exact xt_fg (by repeat' constructor) h9
              · refine xt_iinc (lo' := [_, _, _, _, _]) C dX4_countOther_37 rfl rfl rfl rfl ?_
                refine xt_iincN (z := 1) (lo' := [_, _, _, _, _]) C dX4_countOther_40 rfl rfl rfl ?_
                refine xt_goto (tgt := 15) C dX4_countOther_43 (by decide) ?_
                have h9 := ih2 (x + 1) (by omega)  (by omega)
                rw [show xt_it (fun x s => xt_ci (¬ S.2.1 a (8 * y + x) = 0) s) (x + 1) (xt_it (fun y s => xt_it (fun x s => xt_ci (¬ S.2.1 a (8 * y + x) = 0) s) w s) y 0) = xt_ci (¬ S.2.1 a (8 * y + x) = 0) (xt_it (fun x s => xt_ci (¬ S.2.1 a (8 * y + x) = 0) s) x (xt_it (fun y s => xt_it (fun x s => xt_ci (¬ S.2.1 a (8 * y + x) = 0) s) w s) y 0)) from rfl] at h9
                first
                | rw [xt_ci1 c34] at h9
                | rw [xt_ci0 (fun z => z c34)] at h9
                exact xt_fg (by repeat' constructor) h9
        exact xt_fg (by repeat' constructor) (in2 (w + 1) 0 (by omega)  (by omega))
  refine xt_iconst (v := nI 0) C dX4_countOther_0 rfl ?_
  refine xt_istore_n (lo' := [_, _, _, _, _]) C dX4_countOther_1 (Nat.le_of_ble_eq_true rfl) rfl rfl ?_
  refine xt_iconst (v := nI 0) C dX4_countOther_2 rfl ?_
  refine xt_istore_n (lo' := [_, _, _, _, _]) C dX4_countOther_3 (Nat.le_of_ble_eq_true rfl) rfl rfl ?_
  exact xt_fg (by repeat' constructor) (out1 (h + 1) 0 (by omega) (by omega))
set_option maxRecDepth 20000 in
set_option maxHeartbeats 2000000 in
theorem ct_layerAt {lf tp w h dp bo : Nat} (hT : xt_Tn S lf tp w h dp bo) {p m : Nat} (hp : p < 64) (hm : S.2.1 38 p = nI m) (hm1 : m ≤ 1) {pl : Nat} (hpl : pl ≤ 8) : xt_Ct E l yX4_layerAt cX4_layerAt 4 (some Jvm.ClassFile.FieldType.int) 1 21 0 0 [.ref (E.1 33), .int (nI p), .int (nI pl)] S (xt_Eq (some (.int (nI (xt_lay m bo pl)))) S) := by
  refine xt_body (by decide +kernel) (xt_all rfl) (Nat.le_of_ble_eq_true rfl) (fun cx C hl9 => ?_)
  show xt_X E cx _ 0 0 0 [some (.ref (E.1 33)), some (.int (nI p)), some (.int (nI pl)), none] [] S
  have hT9 := hT
  obtain ⟨t0, t1, t2, t3, t4, t5, g1, g2, g3, g4, g5, g6⟩ := hT
  refine xt_bipush (v := nI 8) C dX4_layerAt_0 (by decide) ?_
  refine xt_iload_n C dX4_layerAt_2 rfl ?_
  refine xt_isubN C dX4_layerAt_3 (by omega) ?_
  refine xt_istore_n (lo' := [_, _, _, _]) C dX4_layerAt_4 (Nat.le_of_ble_eq_true rfl) rfl rfl ?_
  refine xt_iconst (v := nI 0) C dX4_layerAt_5 rfl ?_
  refine xt_aload_n C dX4_layerAt_6 rfl ?_
  refine xt_get (f := 10) C xt_u4 rfl (by decide) (xt_cl33 _ _) (by decide) lkX4_24 rfl dX4_layerAt_7 ?_
  refine xt_iload_n C dX4_layerAt_10 rfl ?_
  refine xt_cSN C ms_X5_at lkX4_84 (ct_at (by decide) (xt_cl38 _) (by decide) hp hm) rfl (by decide) rfl (Nat.le_of_ble_eq_true rfl) dX4_layerAt_11 ?_
  refine xt_if_eqN (tgt := 26) C dX4_layerAt_14 (by decide) (by omega) (fun c14 => ?_) (fun c14 => ?_)
  · refine xt_iload_n C dX4_layerAt_26 rfl ?_
    refine xt_mmax C lkX4_136 mw_max rfl ⟨by decide, Nat.le_of_ble_eq_true rfl, by decide, by decide⟩ dX4_layerAt_27 ?_
    first
    | rw [xt_m0s (by omega) (by omega)]
    | rw [xt_max (by omega) (by omega)]
    exact xt_iret C dX4_layerAt_30 ⟨by decide, by decide⟩ (xt_qI (by unfold xt_lay; first | rw [if_pos (by omega)] | (rw [if_neg (by omega)]; rw [Nat.max_eq_right (Nat.zero_le _)])))
  · refine xt_iload_n C dX4_layerAt_17 rfl ?_
    refine xt_aload_n C dX4_layerAt_18 rfl ?_
    refine xt_get (f := 5) C xt_u4 rfl (by decide) (xt_cl33 _ _) (by decide) lkX4_67 (xt_vI t5) dX4_layerAt_19 ?_
    refine xt_isub C dX4_layerAt_22 ?_
    refine xt_goto (tgt := 27) C dX4_layerAt_23 (by decide) ?_
    refine xt_mmax C lkX4_136 mw_max rfl ⟨by decide, Nat.le_of_ble_eq_true rfl, by decide, by decide⟩ dX4_layerAt_27 ?_
    first
    | rw [xt_m0s (by omega) (by omega)]
    | rw [xt_max (by omega) (by omega)]
    exact xt_iret C dX4_layerAt_30 ⟨by decide, by decide⟩ (xt_qI (by unfold xt_lay; first | rw [if_pos (by omega)] | (rw [if_neg (by omega)]; rw [Nat.max_eq_right (Nat.zero_le _)])))
set_option maxRecDepth 20000 in
set_option maxHeartbeats 2000000 in
theorem ct_missing {lf tp w h dp bo : Nat} (hT : xt_Tn S lf tp w h dp bo) {p m : Nat} (hp : p < 64) (hm : S.2.1 38 p = nI m) (hm1 : m ≤ 1) {n : Nat} (hn : n ≤ 9) : xt_Ct E l yX4_missingPlanes cX4_missingPlanes 3 (some Jvm.ClassFile.FieldType.int) 2 44 0 0 [.ref (E.1 33), .int (nI p), .int (nI n)] S (xt_Eq (some (.int (nI (xt_mis m bo n)))) S) := by
  refine xt_body (by decide +kernel) (xt_all rfl) (Nat.le_of_ble_eq_true rfl) (fun cx C hl9 => ?_)
  show xt_X E cx _ 0 0 0 [some (.ref (E.1 33)), some (.int (nI p)), some (.int (nI n))] [] S
  have hT9 := hT
  obtain ⟨t0, t1, t2, t3, t4, t5, g1, g2, g3, g4, g5, g6⟩ := hT
  have hl9 : xt_lay m bo 0 ≤ 8 := by unfold xt_lay; split <;> omega
  refine xt_iload_n C dX4_missingPlanes_0 rfl ?_
  refine xt_iconst (v := nI 1) C dX4_missingPlanes_1 rfl ?_
  refine xt_icmp_geN (tgt := 10) C dX4_missingPlanes_2 (by decide) (by omega) (by omega) (fun c2 => ?_) (fun c2 => ?_)
  · refine xt_iconst (v := nI 0) C dX4_missingPlanes_10 rfl ?_
    refine xt_aload_n C dX4_missingPlanes_11 rfl ?_
    refine xt_iload_n C dX4_missingPlanes_12 rfl ?_
    refine xt_iconst (v := nI 0) C dX4_missingPlanes_13 rfl ?_
    refine xt_cV C mv_X4_layerAt lkX4_139 (ct_layerAt (by exact hT9) hp hm hm1 (by omega)) rfl (by decide) (xt_cl33 _ _) rfl (by decide) rfl (Nat.le_of_ble_eq_true rfl) dX4_missingPlanes_14 ?_
    refine xt_iconst (v := nI 1) C dX4_missingPlanes_17 rfl ?_
    refine xt_iaddN C dX4_missingPlanes_18 ?_
    refine xt_iload_n C dX4_missingPlanes_19 rfl ?_
    refine xt_isub C dX4_missingPlanes_20 ?_
    refine xt_mmax C lkX4_136 mw_max rfl ⟨by decide, Nat.le_of_ble_eq_true rfl, by decide, by decide⟩ dX4_missingPlanes_21 ?_
    rw [xt_m0s (by omega) (by omega)]
    exact xt_iret C dX4_missingPlanes_24 ⟨by decide, by decide⟩ (xt_qI (by unfold xt_mis; first | rw [if_pos (by omega)] | rw [if_neg (by omega)]))
  · refine xt_bipush (v := nI 9) C dX4_missingPlanes_5 (by decide) ?_
    refine xt_goto (tgt := 24) C dX4_missingPlanes_7 (by decide) ?_
    exact xt_iret C dX4_missingPlanes_24 ⟨by decide, by decide⟩ (xt_qI (by unfold xt_mis; first | rw [if_pos (by omega)] | rw [if_neg (by omega)]))
set_option maxRecDepth 20000 in
set_option maxHeartbeats 2000000 in
theorem ct_bitsAt {lf tp w h dp bo : Nat} (hT : xt_Tn S lf tp w h dp bo) {p m : Nat} (hp : p < 64) (hm : S.2.1 38 p = nI m) (hm1 : m ≤ 1) {ly : Int32} : xt_Ct E l yX4_bitsAt cX4_bitsAt 7 (some Jvm.ClassFile.FieldType.int) 2 44 0 0 [.ref (E.1 33), .int (nI p), .int ly] S (xt_Eq (some (.int (xt_bits (xt_abs (S.2.1 35 p)) ly m bo))) S) := by
  refine xt_body (by decide +kernel) (xt_all rfl) (Nat.le_of_ble_eq_true rfl) (fun cx C hl9 => ?_)
  show xt_X E cx _ 0 0 0 [some (.ref (E.1 33)), some (.int (nI p)), some (.int ly), none, none, none, none] [] S
  have hT9 := hT
  obtain ⟨t0, t1, t2, t3, t4, t5, g1, g2, g3, g4, g5, g6⟩ := hT
  have loop : ∀ (d q : Nat), q ≤ 9 →  9 + 1 ≤ q + d → xt_X E cx (xt_ZM E cx 0 0 (xt_Eq (some (.int (xt_bits (xt_abs (S.2.1 35 p)) ly m bo))) S)) 0 0 18 [some (.ref (E.1 33)), some (.int (nI p)), some (.int ly), some (.int (xt_abs (S.2.1 35 p))), some (.int (xt_it (fun q9 s => if ly = -1 ∨ nI (xt_lay m bo q9) = ly then s + (if (xt_abs (S.2.1 35 p)) >>> (nI q9 &&& 31) = nI 1 then nI 2 else nI 1) else s) q 0)), some (.int (nI q)), none] [] S := by
    intro d
    induction d with
    | zero => intro q  h0q  h1q; exact absurd h1q (by omega)
    | succ d ih =>
      intro q  h0q  h1q
      refine xt_iload C dX4_bitsAt_18 rfl ?_
      refine xt_bipush (v := nI 9) C dX4_bitsAt_20 (by decide) ?_
      refine xt_icmp_geN (tgt := 77) C dX4_bitsAt_22 (by decide) (by omega) (by omega) (fun c22 => ?_) (fun c22 => ?_)
      · refine xt_iload C dX4_bitsAt_77 rfl ?_
        exact xt_iret C dX4_bitsAt_79 ⟨by decide, by decide⟩ (xt_qI (by unfold xt_bits; rw [show q = 9 by omega]))
      · refine xt_iload_n C dX4_bitsAt_25 rfl ?_
        refine xt_iconst (v := -1) C dX4_bitsAt_26 rfl ?_
        refine xt_icmp_eq (tgt := 41) C dX4_bitsAt_27 (by decide) (fun c27 => ?_) (fun c27 => ?_)
        · refine xt_iload_n C dX4_bitsAt_41 rfl ?_
          refine xt_iload C dX4_bitsAt_42 rfl ?_
          refine xt_ishr C dX4_bitsAt_44 ?_
          refine xt_iconst (v := nI 1) C dX4_bitsAt_45 rfl ?_
          refine xt_icmp_ne (tgt := 53) C dX4_bitsAt_46 (by decide) (fun c46 => ?_) (fun c46 => ?_)
          · refine xt_iconst (v := nI 0) C dX4_bitsAt_53 rfl ?_
            refine xt_istore (lo' := [_, _, _, _, _, _, _]) C dX4_bitsAt_54 (Nat.le_of_ble_eq_true rfl) rfl rfl ?_
            refine xt_iload C dX4_bitsAt_56 rfl ?_
            refine xt_iload C dX4_bitsAt_58 rfl ?_
            refine xt_if_eqN (tgt := 67) C dX4_bitsAt_60 (by decide) (by omega) (fun c60 => ?_) (fun c60 => ?_)
            · refine xt_iconst (v := nI 1) C dX4_bitsAt_67 rfl ?_
              refine xt_iadd C dX4_bitsAt_68 ?_
              refine xt_istore (lo' := [_, _, _, _, _, _, _]) C dX4_bitsAt_69 (Nat.le_of_ble_eq_true rfl) rfl rfl ?_
              refine xt_iincN (z := 1) (lo' := [_, _, _, _, _, _, _]) C dX4_bitsAt_71 rfl rfl rfl ?_
              refine xt_goto (tgt := 18) C dX4_bitsAt_74 (by decide) ?_
              first
              | exact absurd c60 (by decide)
              | (have h9 := ih (q + 1) (by omega) (by omega)
                 rw [show xt_it (fun q9 s => if ly = -1 ∨ nI (xt_lay m bo q9) = ly then s + (if (xt_abs (S.2.1 35 p)) >>> (nI q9 &&& 31) = nI 1 then nI 2 else nI 1) else s) (q + 1) 0 = (if ly = -1 ∨ nI (xt_lay m bo q) = ly then (xt_it (fun q9 s => if ly = -1 ∨ nI (xt_lay m bo q9) = ly then s + (if (xt_abs (S.2.1 35 p)) >>> (nI q9 &&& 31) = nI 1 then nI 2 else nI 1) else s) q 0) + (if (xt_abs (S.2.1 35 p)) >>> (nI q &&& 31) = nI 1 then nI 2 else nI 1) else (xt_it (fun q9 s => if ly = -1 ∨ nI (xt_lay m bo q9) = ly then s + (if (xt_abs (S.2.1 35 p)) >>> (nI q9 &&& 31) = nI 1 then nI 2 else nI 1) else s) q 0)) from rfl] at h9
                 first
                 | rw [if_pos (Or.inl c27), if_pos c46] at h9
                 | rw [if_pos (Or.inl c27), if_neg c46] at h9
                 | rw [if_pos (Or.inr c38), if_pos c46] at h9
                 | rw [if_pos (Or.inr c38), if_neg c46] at h9
                 | rw [if_neg (fun z => by rcases z with z | z; exact c27 z; exact c38 z)] at h9
                 exact xt_fg (by repeat' constructor) h9)
            · refine xt_iconst (v := nI 2) C dX4_bitsAt_63 rfl ?_
              refine xt_goto (tgt := 68) C dX4_bitsAt_64 (by decide) ?_
              refine xt_iadd C dX4_bitsAt_68 ?_
              refine xt_istore (lo' := [_, _, _, _, _, _, _]) C dX4_bitsAt_69 (Nat.le_of_ble_eq_true rfl) rfl rfl ?_
              refine xt_iincN (z := 1) (lo' := [_, _, _, _, _, _, _]) C dX4_bitsAt_71 rfl rfl rfl ?_
              refine xt_goto (tgt := 18) C dX4_bitsAt_74 (by decide) ?_
              first
              | exact absurd c60 (by decide)
              | (have h9 := ih (q + 1) (by omega) (by omega)
                 rw [show xt_it (fun q9 s => if ly = -1 ∨ nI (xt_lay m bo q9) = ly then s + (if (xt_abs (S.2.1 35 p)) >>> (nI q9 &&& 31) = nI 1 then nI 2 else nI 1) else s) (q + 1) 0 = (if ly = -1 ∨ nI (xt_lay m bo q) = ly then (xt_it (fun q9 s => if ly = -1 ∨ nI (xt_lay m bo q9) = ly then s + (if (xt_abs (S.2.1 35 p)) >>> (nI q9 &&& 31) = nI 1 then nI 2 else nI 1) else s) q 0) + (if (xt_abs (S.2.1 35 p)) >>> (nI q &&& 31) = nI 1 then nI 2 else nI 1) else (xt_it (fun q9 s => if ly = -1 ∨ nI (xt_lay m bo q9) = ly then s + (if (xt_abs (S.2.1 35 p)) >>> (nI q9 &&& 31) = nI 1 then nI 2 else nI 1) else s) q 0)) from rfl] at h9
                 first
                 | rw [if_pos (Or.inl c27), if_pos c46] at h9
                 | rw [if_pos (Or.inl c27), if_neg c46] at h9
                 | rw [if_pos (Or.inr c38), if_pos c46] at h9
                 | rw [if_pos (Or.inr c38), if_neg c46] at h9
                 | rw [if_neg (fun z => by rcases z with z | z; exact c27 z; exact c38 z)] at h9
                 exact xt_fg (by repeat' constructor) h9)
          · refine xt_iconst (v := nI 1) C dX4_bitsAt_49 rfl ?_
            refine xt_goto (tgt := 54) C dX4_bitsAt_50 (by decide) ?_
            refine xt_istore (lo' := [_, _, _, _, _, _, _]) C dX4_bitsAt_54 (Nat.le_of_ble_eq_true rfl) rfl rfl ?_
            refine xt_iload C dX4_bitsAt_56 rfl ?_
            refine xt_iload C dX4_bitsAt_58 rfl ?_
            refine xt_if_eqN (tgt := 67) C dX4_bitsAt_60 (by decide) (by omega) (fun c60 => ?_) (fun c60 => ?_)
            · refine xt_iconst (v := nI 1) C dX4_bitsAt_67 rfl ?_
              refine xt_iadd C dX4_bitsAt_68 ?_
              refine xt_istore (lo' := [_, _, _, _, _, _, _]) C dX4_bitsAt_69 (Nat.le_of_ble_eq_true rfl) rfl rfl ?_
              refine xt_iincN (z := 1) (lo' := [_, _, _, _, _, _, _]) C dX4_bitsAt_71 rfl rfl rfl ?_
              refine xt_goto (tgt := 18) C dX4_bitsAt_74 (by decide) ?_
              first
              | exact absurd c60 (by decide)
              | (have h9 := ih (q + 1) (by omega) (by omega)
                 rw [show xt_it (fun q9 s => if ly = -1 ∨ nI (xt_lay m bo q9) = ly then s + (if (xt_abs (S.2.1 35 p)) >>> (nI q9 &&& 31) = nI 1 then nI 2 else nI 1) else s) (q + 1) 0 = (if ly = -1 ∨ nI (xt_lay m bo q) = ly then (xt_it (fun q9 s => if ly = -1 ∨ nI (xt_lay m bo q9) = ly then s + (if (xt_abs (S.2.1 35 p)) >>> (nI q9 &&& 31) = nI 1 then nI 2 else nI 1) else s) q 0) + (if (xt_abs (S.2.1 35 p)) >>> (nI q &&& 31) = nI 1 then nI 2 else nI 1) else (xt_it (fun q9 s => if ly = -1 ∨ nI (xt_lay m bo q9) = ly then s + (if (xt_abs (S.2.1 35 p)) >>> (nI q9 &&& 31) = nI 1 then nI 2 else nI 1) else s) q 0)) from rfl] at h9
                 first
                 | rw [if_pos (Or.inl c27), if_pos c46] at h9
                 | rw [if_pos (Or.inl c27), if_neg c46] at h9
                 | rw [if_pos (Or.inr c38), if_pos c46] at h9
                 | rw [if_pos (Or.inr c38), if_neg c46] at h9
                 | rw [if_neg (fun z => by rcases z with z | z; exact c27 z; exact c38 z)] at h9
                 exact xt_fg (by repeat' constructor) h9)
            · refine xt_iconst (v := nI 2) C dX4_bitsAt_63 rfl ?_
              refine xt_goto (tgt := 68) C dX4_bitsAt_64 (by decide) ?_
              refine xt_iadd C dX4_bitsAt_68 ?_
              refine xt_istore (lo' := [_, _, _, _, _, _, _]) C dX4_bitsAt_69 (Nat.le_of_ble_eq_true rfl) rfl rfl ?_
              refine xt_iincN (z := 1) (lo' := [_, _, _, _, _, _, _]) C dX4_bitsAt_71 rfl rfl rfl ?_
              refine xt_goto (tgt := 18) C dX4_bitsAt_74 (by decide) ?_
              first
              | exact absurd c60 (by decide)
              | (have h9 := ih (q + 1) (by omega) (by omega)
                 rw [show xt_it (fun q9 s => if ly = -1 ∨ nI (xt_lay m bo q9) = ly then s + (if (xt_abs (S.2.1 35 p)) >>> (nI q9 &&& 31) = nI 1 then nI 2 else nI 1) else s) (q + 1) 0 = (if ly = -1 ∨ nI (xt_lay m bo q) = ly then (xt_it (fun q9 s => if ly = -1 ∨ nI (xt_lay m bo q9) = ly then s + (if (xt_abs (S.2.1 35 p)) >>> (nI q9 &&& 31) = nI 1 then nI 2 else nI 1) else s) q 0) + (if (xt_abs (S.2.1 35 p)) >>> (nI q &&& 31) = nI 1 then nI 2 else nI 1) else (xt_it (fun q9 s => if ly = -1 ∨ nI (xt_lay m bo q9) = ly then s + (if (xt_abs (S.2.1 35 p)) >>> (nI q9 &&& 31) = nI 1 then nI 2 else nI 1) else s) q 0)) from rfl] at h9
                 first
                 | rw [if_pos (Or.inl c27), if_pos c46] at h9
                 | rw [if_pos (Or.inl c27), if_neg c46] at h9
                 | rw [if_pos (Or.inr c38), if_pos c46] at h9
                 | rw [if_pos (Or.inr c38), if_neg c46] at h9
                 | rw [if_neg (fun z => by rcases z with z | z; exact c27 z; exact c38 z)] at h9
                 exact xt_fg (by repeat' constructor) h9)
        · refine xt_aload_n C dX4_bitsAt_30 rfl ?_
          refine xt_iload_n C dX4_bitsAt_31 rfl ?_
          refine xt_iload C dX4_bitsAt_32 rfl ?_
          refine xt_cV C mv_X4_layerAt lkX4_139 (ct_layerAt (by exact hT9) hp hm hm1 (by omega)) rfl (by decide) (xt_cl33 _ _) rfl (by decide) rfl (Nat.le_of_ble_eq_true rfl) dX4_bitsAt_34 ?_
          refine xt_iload_n C dX4_bitsAt_37 rfl ?_
          refine xt_icmp_ne (tgt := 71) C dX4_bitsAt_38 (by decide) (fun c38 => ?_) (fun c38 => ?_)
          · refine xt_iincN (z := 1) (lo' := [_, _, _, _, _, _, _]) C dX4_bitsAt_71 rfl rfl rfl ?_
            refine xt_goto (tgt := 18) C dX4_bitsAt_74 (by decide) ?_
            first
            | exact absurd c60 (by decide)
            | (have h9 := ih (q + 1) (by omega) (by omega)
               rw [show xt_it (fun q9 s => if ly = -1 ∨ nI (xt_lay m bo q9) = ly then s + (if (xt_abs (S.2.1 35 p)) >>> (nI q9 &&& 31) = nI 1 then nI 2 else nI 1) else s) (q + 1) 0 = (if ly = -1 ∨ nI (xt_lay m bo q) = ly then (xt_it (fun q9 s => if ly = -1 ∨ nI (xt_lay m bo q9) = ly then s + (if (xt_abs (S.2.1 35 p)) >>> (nI q9 &&& 31) = nI 1 then nI 2 else nI 1) else s) q 0) + (if (xt_abs (S.2.1 35 p)) >>> (nI q &&& 31) = nI 1 then nI 2 else nI 1) else (xt_it (fun q9 s => if ly = -1 ∨ nI (xt_lay m bo q9) = ly then s + (if (xt_abs (S.2.1 35 p)) >>> (nI q9 &&& 31) = nI 1 then nI 2 else nI 1) else s) q 0)) from rfl] at h9
               first
               | rw [if_pos (Or.inl c27), if_pos c46] at h9
               | rw [if_pos (Or.inl c27), if_neg c46] at h9
               | rw [if_pos (Or.inr c38), if_pos c46] at h9
               | rw [if_pos (Or.inr c38), if_neg c46] at h9
               | rw [if_neg (fun z => by rcases z with z | z; exact c27 z; exact c38 z)] at h9
               exact xt_fg (by repeat' constructor) h9)
          · refine xt_iload_n C dX4_bitsAt_41 rfl ?_
            refine xt_iload C dX4_bitsAt_42 rfl ?_
            refine xt_ishr C dX4_bitsAt_44 ?_
            refine xt_iconst (v := nI 1) C dX4_bitsAt_45 rfl ?_
            refine xt_icmp_ne (tgt := 53) C dX4_bitsAt_46 (by decide) (fun c46 => ?_) (fun c46 => ?_)
            · refine xt_iconst (v := nI 0) C dX4_bitsAt_53 rfl ?_
              refine xt_istore (lo' := [_, _, _, _, _, _, _]) C dX4_bitsAt_54 (Nat.le_of_ble_eq_true rfl) rfl rfl ?_
              refine xt_iload C dX4_bitsAt_56 rfl ?_
              refine xt_iload C dX4_bitsAt_58 rfl ?_
              refine xt_if_eqN (tgt := 67) C dX4_bitsAt_60 (by decide) (by omega) (fun c60 => ?_) (fun c60 => ?_)
              · refine xt_iconst (v := nI 1) C dX4_bitsAt_67 rfl ?_
                refine xt_iadd C dX4_bitsAt_68 ?_
                refine xt_istore (lo' := [_, _, _, _, _, _, _]) C dX4_bitsAt_69 (Nat.le_of_ble_eq_true rfl) rfl rfl ?_
                refine xt_iincN (z := 1) (lo' := [_, _, _, _, _, _, _]) C dX4_bitsAt_71 rfl rfl rfl ?_
                refine xt_goto (tgt := 18) C dX4_bitsAt_74 (by decide) ?_
                first
                | exact absurd c60 (by decide)
                | (have h9 := ih (q + 1) (by omega) (by omega)
                   rw [show xt_it (fun q9 s => if ly = -1 ∨ nI (xt_lay m bo q9) = ly then s + (if (xt_abs (S.2.1 35 p)) >>> (nI q9 &&& 31) = nI 1 then nI 2 else nI 1) else s) (q + 1) 0 = (if ly = -1 ∨ nI (xt_lay m bo q) = ly then (xt_it (fun q9 s => if ly = -1 ∨ nI (xt_lay m bo q9) = ly then s + (if (xt_abs (S.2.1 35 p)) >>> (nI q9 &&& 31) = nI 1 then nI 2 else nI 1) else s) q 0) + (if (xt_abs (S.2.1 35 p)) >>> (nI q &&& 31) = nI 1 then nI 2 else nI 1) else (xt_it (fun q9 s => if ly = -1 ∨ nI (xt_lay m bo q9) = ly then s + (if (xt_abs (S.2.1 35 p)) >>> (nI q9 &&& 31) = nI 1 then nI 2 else nI 1) else s) q 0)) from rfl] at h9
                   first
                   | rw [if_pos (Or.inl c27), if_pos c46] at h9
                   | rw [if_pos (Or.inl c27), if_neg c46] at h9
                   | rw [if_pos (Or.inr c38), if_pos c46] at h9
                   | rw [if_pos (Or.inr c38), if_neg c46] at h9
                   | rw [if_neg (fun z => by rcases z with z | z; exact c27 z; exact c38 z)] at h9
                   exact xt_fg (by repeat' constructor) h9)
              · refine xt_iconst (v := nI 2) C dX4_bitsAt_63 rfl ?_
                refine xt_goto (tgt := 68) C dX4_bitsAt_64 (by decide) ?_
                refine xt_iadd C dX4_bitsAt_68 ?_
                refine xt_istore (lo' := [_, _, _, _, _, _, _]) C dX4_bitsAt_69 (Nat.le_of_ble_eq_true rfl) rfl rfl ?_
                refine xt_iincN (z := 1) (lo' := [_, _, _, _, _, _, _]) C dX4_bitsAt_71 rfl rfl rfl ?_
                refine xt_goto (tgt := 18) C dX4_bitsAt_74 (by decide) ?_
                first
                | exact absurd c60 (by decide)
                | (have h9 := ih (q + 1) (by omega) (by omega)
                   rw [show xt_it (fun q9 s => if ly = -1 ∨ nI (xt_lay m bo q9) = ly then s + (if (xt_abs (S.2.1 35 p)) >>> (nI q9 &&& 31) = nI 1 then nI 2 else nI 1) else s) (q + 1) 0 = (if ly = -1 ∨ nI (xt_lay m bo q) = ly then (xt_it (fun q9 s => if ly = -1 ∨ nI (xt_lay m bo q9) = ly then s + (if (xt_abs (S.2.1 35 p)) >>> (nI q9 &&& 31) = nI 1 then nI 2 else nI 1) else s) q 0) + (if (xt_abs (S.2.1 35 p)) >>> (nI q &&& 31) = nI 1 then nI 2 else nI 1) else (xt_it (fun q9 s => if ly = -1 ∨ nI (xt_lay m bo q9) = ly then s + (if (xt_abs (S.2.1 35 p)) >>> (nI q9 &&& 31) = nI 1 then nI 2 else nI 1) else s) q 0)) from rfl] at h9
                   first
                   | rw [if_pos (Or.inl c27), if_pos c46] at h9
                   | rw [if_pos (Or.inl c27), if_neg c46] at h9
                   | rw [if_pos (Or.inr c38), if_pos c46] at h9
                   | rw [if_pos (Or.inr c38), if_neg c46] at h9
                   | rw [if_neg (fun z => by rcases z with z | z; exact c27 z; exact c38 z)] at h9
                   exact xt_fg (by repeat' constructor) h9)
            · refine xt_iconst (v := nI 1) C dX4_bitsAt_49 rfl ?_
              refine xt_goto (tgt := 54) C dX4_bitsAt_50 (by decide) ?_
              refine xt_istore (lo' := [_, _, _, _, _, _, _]) C dX4_bitsAt_54 (Nat.le_of_ble_eq_true rfl) rfl rfl ?_
              refine xt_iload C dX4_bitsAt_56 rfl ?_
              refine xt_iload C dX4_bitsAt_58 rfl ?_
              refine xt_if_eqN (tgt := 67) C dX4_bitsAt_60 (by decide) (by omega) (fun c60 => ?_) (fun c60 => ?_)
              · refine xt_iconst (v := nI 1) C dX4_bitsAt_67 rfl ?_
                refine xt_iadd C dX4_bitsAt_68 ?_
                refine xt_istore (lo' := [_, _, _, _, _, _, _]) C dX4_bitsAt_69 (Nat.le_of_ble_eq_true rfl) rfl rfl ?_
                refine xt_iincN (z := 1) (lo' := [_, _, _, _, _, _, _]) C dX4_bitsAt_71 rfl rfl rfl ?_
                refine xt_goto (tgt := 18) C dX4_bitsAt_74 (by decide) ?_
                first
                | exact absurd c60 (by decide)
                | (have h9 := ih (q + 1) (by omega) (by omega)
                   rw [show xt_it (fun q9 s => if ly = -1 ∨ nI (xt_lay m bo q9) = ly then s + (if (xt_abs (S.2.1 35 p)) >>> (nI q9 &&& 31) = nI 1 then nI 2 else nI 1) else s) (q + 1) 0 = (if ly = -1 ∨ nI (xt_lay m bo q) = ly then (xt_it (fun q9 s => if ly = -1 ∨ nI (xt_lay m bo q9) = ly then s + (if (xt_abs (S.2.1 35 p)) >>> (nI q9 &&& 31) = nI 1 then nI 2 else nI 1) else s) q 0) + (if (xt_abs (S.2.1 35 p)) >>> (nI q &&& 31) = nI 1 then nI 2 else nI 1) else (xt_it (fun q9 s => if ly = -1 ∨ nI (xt_lay m bo q9) = ly then s + (if (xt_abs (S.2.1 35 p)) >>> (nI q9 &&& 31) = nI 1 then nI 2 else nI 1) else s) q 0)) from rfl] at h9
                   first
                   | rw [if_pos (Or.inl c27), if_pos c46] at h9
                   | rw [if_pos (Or.inl c27), if_neg c46] at h9
                   | rw [if_pos (Or.inr c38), if_pos c46] at h9
                   | rw [if_pos (Or.inr c38), if_neg c46] at h9
                   | rw [if_neg (fun z => by rcases z with z | z; exact c27 z; exact c38 z)] at h9
                   exact xt_fg (by repeat' constructor) h9)
              · refine xt_iconst (v := nI 2) C dX4_bitsAt_63 rfl ?_
                refine xt_goto (tgt := 68) C dX4_bitsAt_64 (by decide) ?_
                refine xt_iadd C dX4_bitsAt_68 ?_
                refine xt_istore (lo' := [_, _, _, _, _, _, _]) C dX4_bitsAt_69 (Nat.le_of_ble_eq_true rfl) rfl rfl ?_
                refine xt_iincN (z := 1) (lo' := [_, _, _, _, _, _, _]) C dX4_bitsAt_71 rfl rfl rfl ?_
                refine xt_goto (tgt := 18) C dX4_bitsAt_74 (by decide) ?_
                first
                | exact absurd c60 (by decide)
                | (have h9 := ih (q + 1) (by omega) (by omega)
                   rw [show xt_it (fun q9 s => if ly = -1 ∨ nI (xt_lay m bo q9) = ly then s + (if (xt_abs (S.2.1 35 p)) >>> (nI q9 &&& 31) = nI 1 then nI 2 else nI 1) else s) (q + 1) 0 = (if ly = -1 ∨ nI (xt_lay m bo q) = ly then (xt_it (fun q9 s => if ly = -1 ∨ nI (xt_lay m bo q9) = ly then s + (if (xt_abs (S.2.1 35 p)) >>> (nI q9 &&& 31) = nI 1 then nI 2 else nI 1) else s) q 0) + (if (xt_abs (S.2.1 35 p)) >>> (nI q &&& 31) = nI 1 then nI 2 else nI 1) else (xt_it (fun q9 s => if ly = -1 ∨ nI (xt_lay m bo q9) = ly then s + (if (xt_abs (S.2.1 35 p)) >>> (nI q9 &&& 31) = nI 1 then nI 2 else nI 1) else s) q 0)) from rfl] at h9
                   first
                   | rw [if_pos (Or.inl c27), if_pos c46] at h9
                   | rw [if_pos (Or.inl c27), if_neg c46] at h9
                   | rw [if_pos (Or.inr c38), if_pos c46] at h9
                   | rw [if_pos (Or.inr c38), if_neg c46] at h9
                   | rw [if_neg (fun z => by rcases z with z | z; exact c27 z; exact c38 z)] at h9
                   exact xt_fg (by repeat' constructor) h9)
  refine xt_aload_n C dX4_bitsAt_0 rfl ?_
  refine xt_get (f := 7) C xt_u4 rfl (by decide) (xt_cl33 _ _) (by decide) lkX4_15 rfl dX4_bitsAt_1 ?_
  refine xt_iload_n C dX4_bitsAt_4 rfl ?_
  refine xt_cSN C ms_X5_at lkX4_84 (ct_at (by decide) (xt_cl35 _) (by decide) hp rfl) rfl (by decide) rfl (Nat.le_of_ble_eq_true rfl) dX4_bitsAt_5 ?_
  refine xt_cSN C ms_X5_amountOf lkX4_145 ct_amount rfl (by decide) rfl (Nat.le_of_ble_eq_true rfl) dX4_bitsAt_8 ?_
  refine xt_istore_n (lo' := [_, _, _, _, _, _, _]) C dX4_bitsAt_11 (Nat.le_of_ble_eq_true rfl) rfl rfl ?_
  refine xt_iconst (v := nI 0) C dX4_bitsAt_12 rfl ?_
  refine xt_istore (lo' := [_, _, _, _, _, _, _]) C dX4_bitsAt_13 (Nat.le_of_ble_eq_true rfl) rfl rfl ?_
  refine xt_iconst (v := nI 0) C dX4_bitsAt_15 rfl ?_
  refine xt_istore (lo' := [_, _, _, _, _, _, _]) C dX4_bitsAt_16 (Nat.le_of_ble_eq_true rfl) rfl rfl ?_
  exact xt_fg (by repeat' constructor) (loop (9 + 1) 0 (by omega) (by omega))
set_option maxRecDepth 20000 in
set_option maxHeartbeats 2000000 in
theorem ct_bitTotal {lf tp w h dp bo : Nat} (hT : xt_Tn S lf tp w h dp bo) {mm : Nat → Nat} (hmm : ∀ y x, y < h → x < w → S.2.1 38 (8 * y + x) = nI (mm (8 * y + x)) ∧ mm (8 * y + x) ≤ 1) {ly : Int32} : xt_Ct E l yX4_bitTotal cX4_bitTotal 5 (some Jvm.ClassFile.FieldType.int) 3 70 0 0 [.ref (E.1 33), .int ly] S (xt_Eq (some (.int (xt_S2 (fun x y => xt_bits (xt_abs (S.2.1 35 (8 * y + x))) ly (mm (8 * y + x)) bo) w h))) S) := by
  refine xt_body (by decide +kernel) (xt_all rfl) (Nat.le_of_ble_eq_true rfl) (fun cx C hl9 => ?_)
  show xt_X E cx _ 0 0 0 [some (.ref (E.1 33)), some (.int ly), none, none, none] [] S
  have hT9 := hT
  obtain ⟨t0, t1, t2, t3, t4, t5, g1, g2, g3, g4, g5, g6⟩ := hT
  have out1 : ∀ (d1 y : Nat), y ≤ h →  h + 1 ≤ y + d1 → xt_X E cx (xt_ZM E cx 0 0 (xt_Eq (some (.int (xt_S2 (fun x y => xt_bits (xt_abs (S.2.1 35 (8 * y + x))) ly (mm (8 * y + x)) bo) w h))) S)) 0 0 4 [some (.ref (E.1 33)), some (.int ly), some (.int (xt_it (fun y s => xt_it (fun x s => s + xt_bits (xt_abs (S.2.1 35 (8 * y + x))) ly (mm (8 * y + x)) bo) w s) y 0)), some (.int (nI y)), none] [] S := by
    intro d1
    induction d1 with
    | zero => intro y  h0y  h1y; exact absurd h1y (by omega)
    | succ d1 ih1 =>
      intro y  h0y  h1y
      refine xt_iload_n C dX4_bitTotal_4 rfl ?_
      refine xt_aload_n C dX4_bitTotal_5 rfl ?_
      refine xt_get (f := 3) C xt_u4 rfl (by decide) (xt_cl33 _ _) (by decide) lkX4_61 (xt_vI t3) dX4_bitTotal_6 ?_
      refine xt_icmp_geN (tgt := 50) C dX4_bitTotal_9 (by decide) (by omega) (by omega) (fun c9 => ?_) (fun c9 => ?_)
      · refine xt_iload_n C dX4_bitTotal_50 rfl ?_
        exact xt_iret C dX4_bitTotal_51 ⟨by decide, by decide⟩ (xt_qI (by rw [show y = h by omega]; rfl))
      · refine xt_iconst (v := nI 0) C dX4_bitTotal_12 rfl ?_
        refine xt_istore (lo' := [_, _, _, _, _]) C dX4_bitTotal_13 (Nat.le_of_ble_eq_true rfl) rfl rfl ?_
        have in2 : ∀ (d2 x : Nat), x ≤ w →  w + 1 ≤ x + d2 → xt_X E cx (xt_ZM E cx 0 0 (xt_Eq (some (.int (xt_S2 (fun x y => xt_bits (xt_abs (S.2.1 35 (8 * y + x))) ly (mm (8 * y + x)) bo) w h))) S)) 0 0 15 [some (.ref (E.1 33)), some (.int ly), some (.int (xt_it (fun x s => s + xt_bits (xt_abs (S.2.1 35 (8 * y + x))) ly (mm (8 * y + x)) bo) x (xt_it (fun y s => xt_it (fun x s => s + xt_bits (xt_abs (S.2.1 35 (8 * y + x))) ly (mm (8 * y + x)) bo) w s) y 0))), some (.int (nI y)), some (.int (nI x))] [] S := by
          intro d2
          induction d2 with
          | zero => intro x  h0x  h1x; exact absurd h1x (by omega)
          | succ d2 ih2 =>
            intro x  h0x  h1x
            refine xt_iload C dX4_bitTotal_15 rfl ?_
            refine xt_aload_n C dX4_bitTotal_17 rfl ?_
            refine xt_get (f := 2) C xt_u4 rfl (by decide) (xt_cl33 _ _) (by decide) lkX4_55 (xt_vI t2) dX4_bitTotal_18 ?_
            refine xt_icmp_geN (tgt := 44) C dX4_bitTotal_21 (by decide) (by omega) (by omega) (fun c21 => ?_) (fun c21 => ?_)
            · refine xt_iincN (z := 1) (lo' := [_, _, _, _, _]) C dX4_bitTotal_44 rfl rfl rfl ?_
              refine xt_goto (tgt := 4) C dX4_bitTotal_47 (by decide) ?_
              have hx9 : x = w := by omega
              subst hx9
              exact xt_fg (by repeat' constructor) (ih1 (y + 1) (by omega)  (by omega))
            · refine xt_iload_n C dX4_bitTotal_24 rfl ?_
              refine xt_aload_n C dX4_bitTotal_25 rfl ?_
              refine xt_iload C dX4_bitTotal_26 rfl ?_
              refine xt_iload_n C dX4_bitTotal_28 rfl ?_
              refine xt_cSN C ms_X5_placeOf lkX4_88 ct_place rfl (by decide) rfl (Nat.le_of_ble_eq_true rfl) dX4_bitTotal_29 ?_
              refine xt_iload_n C dX4_bitTotal_32 rfl ?_
              refine xt_cV C mv_X4_bitsAt lkX4_142 (ct_bitsAt (by exact hT9) (by omega) (hmm y x (by omega) (by omega)).1 (hmm y x (by omega) (by omega)).2) rfl (by decide) (xt_cl33 _ _) rfl (by decide) rfl (Nat.le_of_ble_eq_true rfl) dX4_bitTotal_33 ?_
              refine xt_iadd C dX4_bitTotal_36 ?_
              refine xt_istore_n (lo' := [_, _, _, _, _]) C dX4_bitTotal_37 (Nat.le_of_ble_eq_true rfl) rfl rfl ?_
              refine xt_iincN (z := 1) (lo' := [_, _, _, _, _]) C dX4_bitTotal_38 rfl rfl rfl ?_
              refine xt_goto (tgt := 15) C dX4_bitTotal_41 (by decide) ?_
              have h9 := ih2 (x + 1) (by omega)  (by omega)
              exact xt_fg (by repeat' constructor) h9
        exact xt_fg (by repeat' constructor) (in2 (w + 1) 0 (by omega)  (by omega))
  refine xt_iconst (v := nI 0) C dX4_bitTotal_0 rfl ?_
  refine xt_istore_n (lo' := [_, _, _, _, _]) C dX4_bitTotal_1 (Nat.le_of_ble_eq_true rfl) rfl rfl ?_
  refine xt_iconst (v := nI 0) C dX4_bitTotal_2 rfl ?_
  refine xt_istore_n (lo' := [_, _, _, _, _]) C dX4_bitTotal_3 (Nat.le_of_ble_eq_true rfl) rfl rfl ?_
  exact xt_fg (by repeat' constructor) (out1 (h + 1) 0 (by omega) (by omega))
end XC13
