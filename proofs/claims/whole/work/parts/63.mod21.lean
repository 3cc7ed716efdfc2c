/-! THE MODEL: an item of the text -/
section XM21
variable {E : xt_Ev} {l : Launch} {S : xt_St}
theorem xt_U1 {p q : Int32} {g : Nat → Int32} : xt_sN (xt_sA (xt_sN S 49 9 p) 66 g) 49 9 q = xt_sA (xt_sN S 49 9 q) 66 g := by
  rw [show xt_sN (xt_sA (xt_sN S 49 9 p) 66 g) 49 9 q = xt_sA (xt_sN (xt_sN S 49 9 p) 49 9 q) 66 g from rfl, xt_s2_s]
theorem xt_wc0 {c r lf tp w h : Nat} (hc : c ≤ 16) (hr : r ≤ 16) (hw : lf + w ≤ c) (hh : tp + h ≤ r) (hw0 : 0 < w) (hh0 : 0 < h) : xt_wc c r (nI lf) (nI tp) (nI (lf + w - 1)) (nI (tp + h - 1)) = 0 := by
  unfold xt_wc
  rw [if_pos ⟨⟨⟨lf, by omega, rfl⟩, tp, by omega, rfl⟩, ⟨lf + w - 1, by omega, rfl⟩, tp + h - 1, by omega, rfl⟩, if_pos ⟨nI_le (by omega) (by omega), nI_le (by omega) (by omega)⟩]
  rfl
set_option maxRecDepth 20000 in
set_option maxHeartbeats 2000000 in
theorem ct_item_n {n b : Nat} (hn : S.1 49 8 = nI n) (h60 : n ≤ 60) (ha9 : S.1 49 9 = nI b) (hb9 : b < 900) (hx : ∀ m, m = 114 ∨ m = 109 ∨ m = 117 ∨ m = 116 ∨ m = 108 ∨ m = 98 → ¬ (xt_sg (S.2.1 54) n b) = nI m) : xt_Ct E l yX6_item cX6_item 5 (some Jvm.ClassFile.FieldType.int) 3 64 0 0 [.ref (E.1 49)] S (xt_Eq (some (.int (-1))) S) := by
  refine xt_body (by decide +kernel) (xt_all rfl) (Nat.le_of_ble_eq_true rfl) (fun cx C hl9 => ?_)
  show xt_X E cx _ 0 0 0 [some (.ref (E.1 49)), none, none, none, none] [] S
  refine xt_aload_n C dX6_item_0 rfl ?_
  refine xt_cV C mv_X6_here lkX6_226 (ct_here hn h60 ha9 (by omega)) rfl (by decide) (xt_cl49 _ _) rfl (by decide) rfl (Nat.le_of_ble_eq_true rfl) dX6_item_1 ?_
  refine xt_istore_n (lo' := [_, _, _, _, _]) C dX6_item_4 (Nat.le_of_ble_eq_true rfl) rfl rfl ?_
  refine xt_iload_n C dX6_item_5 rfl ?_
  refine xt_bipush (v := nI 114) C dX6_item_6 (by decide) ?_
  refine xt_icmp_eq (tgt := 23) C dX6_item_8 (by decide) (fun c8 => ?_) (fun c8 => ?_)
  · exact absurd c8 (hx 114 (by decide))
  · refine xt_iload_n C dX6_item_11 rfl ?_
    refine xt_bipush (v := nI 109) C dX6_item_12 (by decide) ?_
    refine xt_icmp_eq (tgt := 23) C dX6_item_14 (by decide) (fun c14 => ?_) (fun c14 => ?_)
    · exact absurd c14 (hx 109 (by decide))
    · refine xt_iload_n C dX6_item_17 rfl ?_
      refine xt_bipush (v := nI 117) C dX6_item_18 (by decide) ?_
      refine xt_icmp_ne (tgt := 167) C dX6_item_20 (by decide) (fun c20 => ?_) (fun c20 => ?_)
      · refine xt_iload_n C dX6_item_167 rfl ?_
        refine xt_bipush (v := nI 116) C dX6_item_168 (by decide) ?_
        refine xt_icmp_ne (tgt := 177) C dX6_item_170 (by decide) (fun c170 => ?_) (fun c170 => ?_)
        · refine xt_iload_n C dX6_item_177 rfl ?_
          refine xt_bipush (v := nI 108) C dX6_item_178 (by decide) ?_
          refine xt_icmp_ne (tgt := 187) C dX6_item_180 (by decide) (fun c180 => ?_) (fun c180 => ?_)
          · refine xt_iload_n C dX6_item_187 rfl ?_
            refine xt_bipush (v := nI 98) C dX6_item_188 (by decide) ?_
            refine xt_icmp_ne (tgt := 197) C dX6_item_190 (by decide) (fun c190 => ?_) (fun c190 => ?_)
            · refine xt_iconst (v := -1) C dX6_item_197 rfl ?_
              refine xt_istore_n (lo' := [_, _, _, _, _]) C dX6_item_198 (Nat.le_of_ble_eq_true rfl) rfl rfl ?_
              refine xt_iload_n C dX6_item_199 rfl ?_
              refine xt_if_ge (tgt := 205) C dX6_item_200 (by decide) (fun c200 => ?_) (fun c200 => ?_)
              · exact absurd (show (0 : Int32) ≤ -1 from c200) (by decide)
              · refine xt_iconst (v := -1) C dX6_item_203 rfl ?_
                exact xt_iret C dX6_item_204 ⟨by decide, by decide⟩ ⟨rfl, rfl⟩
            · exact absurd c190 (hx 98 (by decide))
          · exact absurd c180 (hx 108 (by decide))
        · exact absurd c170 (hx 116 (by decide))
      · exact absurd c20 (hx 117 (by decide))
set_option maxRecDepth 20000 in
set_option maxHeartbeats 2000000 in
theorem ct_item_p114 {n b : Nat} (hn : S.1 49 8 = nI n) (h60 : n ≤ 60) (ha9 : S.1 49 9 = nI b) (hb9 : b < 900) (hx : (xt_sg (S.2.1 54) n b) = nI 114) {k : Nat} (hk4 : k < 4) (h : ∀ j, j < k → xt_pf9 j (xt_sg (S.2.1 54) n (b + 1 + j))) (hk : ¬ xt_pf9 k (xt_sg (S.2.1 54) n (b + 1 + k))) : xt_Ct E l yX6_item cX6_item 5 (some Jvm.ClassFile.FieldType.int) 3 64 0 0 [.ref (E.1 49)] S (xt_Ep (some (.int (-1))) (fun S9 => ∃ g, S9 = (xt_sA (xt_sN S 49 9 (nI (b + 1 + k))) 66 g))) := by
  refine xt_body (by decide +kernel) (xt_all rfl) (Nat.le_of_ble_eq_true rfl) (fun cx C hl9 => ?_)
  show xt_X E cx _ 0 0 0 [some (.ref (E.1 49)), none, none, none, none] [] S
  have hnU : ∀ (q : Int32) (g : Nat → Int32), (xt_sA (xt_sN S 49 9 q) 66 g).1 49 8 = nI n := fun q g => by
    show (xt_sN S 49 9 q).1 49 8 = nI n
    rw [xt_sN_o (by omega)]
    exact hn
  have hbU : ∀ (q : Int32) (g : Nat → Int32), (xt_sA (xt_sN S 49 9 q) 66 g).1 49 9 = q := fun q g => by
    show (xt_sN S 49 9 q).1 49 9 = q
    exact xt_s2_v
  have hn1 : (xt_sN S 49 9 (nI (b + 1))).1 49 8 = nI n := (xt_sN_o (by omega)).trans hn
  refine xt_aload_n C dX6_item_0 rfl ?_
  refine xt_cV C mv_X6_here lkX6_226 (ct_here hn h60 ha9 (by omega)) rfl (by decide) (xt_cl49 _ _) rfl (by decide) rfl (Nat.le_of_ble_eq_true rfl) dX6_item_1 ?_
  rw [hx]
  refine xt_istore_n (lo' := [_, _, _, _, _]) C dX6_item_4 (Nat.le_of_ble_eq_true rfl) rfl rfl ?_
  refine xt_iload_n C dX6_item_5 rfl ?_
  refine xt_bipush (v := nI 114) C dX6_item_6 (by decide) ?_
  refine xt_icmp_eqN (tgt := 23) C dX6_item_8 (by decide) (by omega) (by omega) (fun c8 => ?_) (fun c8 => ?_)
  · refine xt_aload_n C dX6_item_23 rfl ?_
    refine xt_dup C dX6_item_24 rfl ?_
    refine xt_get (f := 9) C xt_u6 rfl (by decide) (xt_cl49 _ _) (by decide) lkX6_223 (xt_vI (by exact ha9)) dX6_item_25 ?_
    refine xt_iconst (v := nI 1) C dX6_item_28 rfl ?_
    refine xt_iaddN C dX6_item_29 ?_
    refine xt_put (f := 9) C xt_u6 rfl (by decide) (xt_cl49 _ _) (by decide) tyX6 tyX6_ok nmX6 lkX6_223 rfl (tyX6_ok 9 (by decide)) rfl rfl (Nat.le_of_ble_eq_true rfl) rfl dX6_item_30 ?_
    refine xt_aload_n C dX6_item_33 rfl ?_
    refine xt_cVp C mv_X6_places lkX6_229 (ct_places0 (S := (xt_sN S 49 9 (nI (b + 1)))) (b := b + 1) hn1 h60 xt_s2_v (by omega) hk4 h hk) rfl (by decide) (xt_cl49 _ _) rfl (by decide) rfl (Nat.le_of_ble_eq_true rfl) dX6_item_34 (fun S9 hq9 => ?_)
    obtain ⟨g, rfl⟩ := hq9
    rw [xt_s2_s]
    refine xt_if_neN (tgt := 42) C dX6_item_37 (by decide) (by omega) (fun c37 => ?_) (fun c37 => ?_)
    · exact absurd c37 (by omega)
    · refine xt_iconst (v := -1) C dX6_item_40 rfl ?_
      exact xt_iret C dX6_item_41 ⟨by decide, by decide⟩ ⟨rfl, g, rfl⟩
  · exact absurd rfl c8
set_option maxRecDepth 20000 in
set_option maxHeartbeats 2000000 in
theorem ct_item_p109 {n b : Nat} (hn : S.1 49 8 = nI n) (h60 : n ≤ 60) (ha9 : S.1 49 9 = nI b) (hb9 : b < 900) (hx : (xt_sg (S.2.1 54) n b) = nI 109) {k : Nat} (hk4 : k < 4) (h : ∀ j, j < k → xt_pf9 j (xt_sg (S.2.1 54) n (b + 1 + j))) (hk : ¬ xt_pf9 k (xt_sg (S.2.1 54) n (b + 1 + k))) : xt_Ct E l yX6_item cX6_item 5 (some Jvm.ClassFile.FieldType.int) 3 64 0 0 [.ref (E.1 49)] S (xt_Ep (some (.int (-1))) (fun S9 => ∃ g, S9 = (xt_sA (xt_sN S 49 9 (nI (b + 1 + k))) 66 g))) := by
  refine xt_body (by decide +kernel) (xt_all rfl) (Nat.le_of_ble_eq_true rfl) (fun cx C hl9 => ?_)
  show xt_X E cx _ 0 0 0 [some (.ref (E.1 49)), none, none, none, none] [] S
  have hnU : ∀ (q : Int32) (g : Nat → Int32), (xt_sA (xt_sN S 49 9 q) 66 g).1 49 8 = nI n := fun q g => by
    show (xt_sN S 49 9 q).1 49 8 = nI n
    rw [xt_sN_o (by omega)]
    exact hn
  have hbU : ∀ (q : Int32) (g : Nat → Int32), (xt_sA (xt_sN S 49 9 q) 66 g).1 49 9 = q := fun q g => by
    show (xt_sN S 49 9 q).1 49 9 = q
    exact xt_s2_v
  have hn1 : (xt_sN S 49 9 (nI (b + 1))).1 49 8 = nI n := (xt_sN_o (by omega)).trans hn
  refine xt_aload_n C dX6_item_0 rfl ?_
  refine xt_cV C mv_X6_here lkX6_226 (ct_here hn h60 ha9 (by omega)) rfl (by decide) (xt_cl49 _ _) rfl (by decide) rfl (Nat.le_of_ble_eq_true rfl) dX6_item_1 ?_
  rw [hx]
  refine xt_istore_n (lo' := [_, _, _, _, _]) C dX6_item_4 (Nat.le_of_ble_eq_true rfl) rfl rfl ?_
  refine xt_iload_n C dX6_item_5 rfl ?_
  refine xt_bipush (v := nI 114) C dX6_item_6 (by decide) ?_
  refine xt_icmp_eqN (tgt := 23) C dX6_item_8 (by decide) (by omega) (by omega) (fun c8 => ?_) (fun c8 => ?_)
  · exact absurd c8 (by decide)
  · refine xt_iload_n C dX6_item_11 rfl ?_
    refine xt_bipush (v := nI 109) C dX6_item_12 (by decide) ?_
    refine xt_icmp_eqN (tgt := 23) C dX6_item_14 (by decide) (by omega) (by omega) (fun c14 => ?_) (fun c14 => ?_)
    · refine xt_aload_n C dX6_item_23 rfl ?_
      refine xt_dup C dX6_item_24 rfl ?_
      refine xt_get (f := 9) C xt_u6 rfl (by decide) (xt_cl49 _ _) (by decide) lkX6_223 (xt_vI (by exact ha9)) dX6_item_25 ?_
      refine xt_iconst (v := nI 1) C dX6_item_28 rfl ?_
      refine xt_iaddN C dX6_item_29 ?_
      refine xt_put (f := 9) C xt_u6 rfl (by decide) (xt_cl49 _ _) (by decide) tyX6 tyX6_ok nmX6 lkX6_223 rfl (tyX6_ok 9 (by decide)) rfl rfl (Nat.le_of_ble_eq_true rfl) rfl dX6_item_30 ?_
      refine xt_aload_n C dX6_item_33 rfl ?_
      refine xt_cVp C mv_X6_places lkX6_229 (ct_places0 (S := (xt_sN S 49 9 (nI (b + 1)))) (b := b + 1) hn1 h60 xt_s2_v (by omega) hk4 h hk) rfl (by decide) (xt_cl49 _ _) rfl (by decide) rfl (Nat.le_of_ble_eq_true rfl) dX6_item_34 (fun S9 hq9 => ?_)
      obtain ⟨g, rfl⟩ := hq9
      rw [xt_s2_s]
      refine xt_if_neN (tgt := 42) C dX6_item_37 (by decide) (by omega) (fun c37 => ?_) (fun c37 => ?_)
      · exact absurd c37 (by omega)
      · refine xt_iconst (v := -1) C dX6_item_40 rfl ?_
        exact xt_iret C dX6_item_41 ⟨by decide, by decide⟩ ⟨rfl, g, rfl⟩
    · exact absurd rfl c14
set_option maxRecDepth 20000 in
set_option maxHeartbeats 2000000 in
theorem ct_item_p117 {n b : Nat} (hn : S.1 49 8 = nI n) (h60 : n ≤ 60) (ha9 : S.1 49 9 = nI b) (hb9 : b < 900) (hx : (xt_sg (S.2.1 54) n b) = nI 117) {k : Nat} (hk4 : k < 4) (h : ∀ j, j < k → xt_pf9 j (xt_sg (S.2.1 54) n (b + 1 + j))) (hk : ¬ xt_pf9 k (xt_sg (S.2.1 54) n (b + 1 + k))) : xt_Ct E l yX6_item cX6_item 5 (some Jvm.ClassFile.FieldType.int) 3 64 0 0 [.ref (E.1 49)] S (xt_Ep (some (.int (-1))) (fun S9 => ∃ g, S9 = (xt_sA (xt_sN S 49 9 (nI (b + 1 + k))) 66 g))) := by
  refine xt_body (by decide +kernel) (xt_all rfl) (Nat.le_of_ble_eq_true rfl) (fun cx C hl9 => ?_)
  show xt_X E cx _ 0 0 0 [some (.ref (E.1 49)), none, none, none, none] [] S
  have hnU : ∀ (q : Int32) (g : Nat → Int32), (xt_sA (xt_sN S 49 9 q) 66 g).1 49 8 = nI n := fun q g => by
    show (xt_sN S 49 9 q).1 49 8 = nI n
    rw [xt_sN_o (by omega)]
    exact hn
  have hbU : ∀ (q : Int32) (g : Nat → Int32), (xt_sA (xt_sN S 49 9 q) 66 g).1 49 9 = q := fun q g => by
    show (xt_sN S 49 9 q).1 49 9 = q
    exact xt_s2_v
  have hn1 : (xt_sN S 49 9 (nI (b + 1))).1 49 8 = nI n := (xt_sN_o (by omega)).trans hn
  refine xt_aload_n C dX6_item_0 rfl ?_
  refine xt_cV C mv_X6_here lkX6_226 (ct_here hn h60 ha9 (by omega)) rfl (by decide) (xt_cl49 _ _) rfl (by decide) rfl (Nat.le_of_ble_eq_true rfl) dX6_item_1 ?_
  rw [hx]
  refine xt_istore_n (lo' := [_, _, _, _, _]) C dX6_item_4 (Nat.le_of_ble_eq_true rfl) rfl rfl ?_
  refine xt_iload_n C dX6_item_5 rfl ?_
  refine xt_bipush (v := nI 114) C dX6_item_6 (by decide) ?_
  refine xt_icmp_eqN (tgt := 23) C dX6_item_8 (by decide) (by omega) (by omega) (fun c8 => ?_) (fun c8 => ?_)
  · exact absurd c8 (by decide)
  · refine xt_iload_n C dX6_item_11 rfl ?_
    refine xt_bipush (v := nI 109) C dX6_item_12 (by decide) ?_
    refine xt_icmp_eqN (tgt := 23) C dX6_item_14 (by decide) (by omega) (by omega) (fun c14 => ?_) (fun c14 => ?_)
    · exact absurd c14 (by decide)
    · refine xt_iload_n C dX6_item_17 rfl ?_
      refine xt_bipush (v := nI 117) C dX6_item_18 (by decide) ?_
      refine xt_icmp_neN (tgt := 167) C dX6_item_20 (by decide) (by omega) (by omega) (fun c20 => ?_) (fun c20 => ?_)
      · exact absurd rfl c20
      · refine xt_aload_n C dX6_item_23 rfl ?_
        refine xt_dup C dX6_item_24 rfl ?_
        refine xt_get (f := 9) C xt_u6 rfl (by decide) (xt_cl49 _ _) (by decide) lkX6_223 (xt_vI (by exact ha9)) dX6_item_25 ?_
        refine xt_iconst (v := nI 1) C dX6_item_28 rfl ?_
        refine xt_iaddN C dX6_item_29 ?_
        refine xt_put (f := 9) C xt_u6 rfl (by decide) (xt_cl49 _ _) (by decide) tyX6 tyX6_ok nmX6 lkX6_223 rfl (tyX6_ok 9 (by decide)) rfl rfl (Nat.le_of_ble_eq_true rfl) rfl dX6_item_30 ?_
        refine xt_aload_n C dX6_item_33 rfl ?_
        refine xt_cVp C mv_X6_places lkX6_229 (ct_places0 (S := (xt_sN S 49 9 (nI (b + 1)))) (b := b + 1) hn1 h60 xt_s2_v (by omega) hk4 h hk) rfl (by decide) (xt_cl49 _ _) rfl (by decide) rfl (Nat.le_of_ble_eq_true rfl) dX6_item_34 (fun S9 hq9 => ?_)
        obtain ⟨g, rfl⟩ := hq9
        rw [xt_s2_s]
        refine xt_if_neN (tgt := 42) C dX6_item_37 (by decide) (by omega) (fun c37 => ?_) (fun c37 => ?_)
        · exact absurd c37 (by omega)
        · refine xt_iconst (v := -1) C dX6_item_40 rfl ?_
          exact xt_iret C dX6_item_41 ⟨by decide, by decide⟩ ⟨rfl, g, rfl⟩
set_option maxRecDepth 20000 in
set_option maxHeartbeats 2000000 in
theorem ct_item_e {n b : Nat} (hn : S.1 49 8 = nI n) (h60 : n ≤ 60) (ha9 : S.1 49 9 = nI b) (hb9 : b < 900) (hx : (xt_sg (S.2.1 54) n b) = nI 114) (h4 : ∀ k, k < 4 → xt_pf9 k (xt_sg (S.2.1 54) n (b + 1 + k))) (hq61 : ¬ (xt_sg (S.2.1 54) n (b + 1 + 4)) = nI 61) : xt_Ct E l yX6_item cX6_item 5 (some Jvm.ClassFile.FieldType.int) 3 64 0 0 [.ref (E.1 49)] S (xt_Ep (some (.int (-1))) (fun S9 => ∃ g, S9 = (xt_sA (xt_sN S 49 9 (nI (b + 1 + 4))) 66 g))) := by
  refine xt_body (by decide +kernel) (xt_all rfl) (Nat.le_of_ble_eq_true rfl) (fun cx C hl9 => ?_)
  show xt_X E cx _ 0 0 0 [some (.ref (E.1 49)), none, none, none, none] [] S
  have hnU : ∀ (q : Int32) (g : Nat → Int32), (xt_sA (xt_sN S 49 9 q) 66 g).1 49 8 = nI n := fun q g => by
    show (xt_sN S 49 9 q).1 49 8 = nI n
    rw [xt_sN_o (by omega)]
    exact hn
  have hbU : ∀ (q : Int32) (g : Nat → Int32), (xt_sA (xt_sN S 49 9 q) 66 g).1 49 9 = q := fun q g => by
    show (xt_sN S 49 9 q).1 49 9 = q
    exact xt_s2_v
  have hn1 : (xt_sN S 49 9 (nI (b + 1))).1 49 8 = nI n := (xt_sN_o (by omega)).trans hn
  refine xt_aload_n C dX6_item_0 rfl ?_
  refine xt_cV C mv_X6_here lkX6_226 (ct_here hn h60 ha9 (by omega)) rfl (by decide) (xt_cl49 _ _) rfl (by decide) rfl (Nat.le_of_ble_eq_true rfl) dX6_item_1 ?_
  rw [hx]
  refine xt_istore_n (lo' := [_, _, _, _, _]) C dX6_item_4 (Nat.le_of_ble_eq_true rfl) rfl rfl ?_
  refine xt_iload_n C dX6_item_5 rfl ?_
  refine xt_bipush (v := nI 114) C dX6_item_6 (by decide) ?_
  refine xt_icmp_eqN (tgt := 23) C dX6_item_8 (by decide) (by omega) (by omega) (fun c8 => ?_) (fun c8 => ?_)
  · refine xt_aload_n C dX6_item_23 rfl ?_
    refine xt_dup C dX6_item_24 rfl ?_
    refine xt_get (f := 9) C xt_u6 rfl (by decide) (xt_cl49 _ _) (by decide) lkX6_223 (xt_vI (by exact ha9)) dX6_item_25 ?_
    refine xt_iconst (v := nI 1) C dX6_item_28 rfl ?_
    refine xt_iaddN C dX6_item_29 ?_
    refine xt_put (f := 9) C xt_u6 rfl (by decide) (xt_cl49 _ _) (by decide) tyX6 tyX6_ok nmX6 lkX6_223 rfl (tyX6_ok 9 (by decide)) rfl rfl (Nat.le_of_ble_eq_true rfl) rfl dX6_item_30 ?_
    refine xt_aload_n C dX6_item_33 rfl ?_
    refine xt_cVp C mv_X6_places lkX6_229 (ct_places1 (S := (xt_sN S 49 9 (nI (b + 1)))) (b := b + 1) hn1 h60 xt_s2_v (by omega) h4) rfl (by decide) (xt_cl49 _ _) rfl (by decide) rfl (Nat.le_of_ble_eq_true rfl) dX6_item_34 (fun S9 hq9 => ?_)
    obtain ⟨g, rfl, hg⟩ := hq9
    rw [xt_s2_s]
    refine xt_if_neN (tgt := 42) C dX6_item_37 (by decide) (by omega) (fun c37 => ?_) (fun c37 => ?_)
    · refine xt_iload_n C dX6_item_42 rfl ?_
      refine xt_bipush (v := nI 109) C dX6_item_43 (by decide) ?_
      refine xt_icmp_neN (tgt := 52) C dX6_item_45 (by decide) (by omega) (by omega) (fun c45 => ?_) (fun c45 => ?_)
      · refine xt_iconst (v := nI 0) C dX6_item_52 rfl ?_
        refine xt_istore_n (lo' := [_, _, _, _, _]) C dX6_item_53 (Nat.le_of_ble_eq_true rfl) rfl rfl ?_
        refine xt_iload_n C dX6_item_54 rfl ?_
        refine xt_bipush (v := nI 114) C dX6_item_55 (by decide) ?_
        refine xt_icmp_neN (tgt := 105) C dX6_item_57 (by decide) (by omega) (by omega) (fun c57 => ?_) (fun c57 => ?_)
        · exact absurd rfl c57
        · refine xt_aload_n C dX6_item_60 rfl ?_
          refine xt_bipush (v := nI 61) C dX6_item_61 (by decide) ?_
          refine xt_cV C mv_X6_takesOne lkX6_233 (ct_tone0 (S := (xt_sA (xt_sN S 49 9 (nI (b + 1 + 4))) 66 g)) (b := b + 1 + 4) (hnU _ _) h60 (hbU _ _) (by omega) hq61) rfl (by decide) (xt_cl49 _ _) rfl (by decide) rfl (Nat.le_of_ble_eq_true rfl) dX6_item_63 ?_
          refine xt_if_neN (tgt := 71) C dX6_item_66 (by decide) (by omega) (fun c66 => ?_) (fun c66 => ?_)
          · exact absurd c66 (by omega)
          · refine xt_iconst (v := -1) C dX6_item_69 rfl ?_
            exact xt_iret C dX6_item_70 ⟨by decide, by decide⟩ ⟨rfl, g, rfl⟩
      · exact absurd c45 (by decide)
    · exact absurd c37 (by omega)
  · exact absurd rfl c8
set_option maxRecDepth 20000 in
set_option maxHeartbeats 2000000 in
theorem ct_item_h1 {n b : Nat} (hn : S.1 49 8 = nI n) (h60 : n ≤ 60) (ha9 : S.1 49 9 = nI b) (hb9 : b < 900) (hx : (xt_sg (S.2.1 54) n b) = nI 114) (h4 : ∀ k, k < 4 → xt_pf9 k (xt_sg (S.2.1 54) n (b + 1 + k))) (hq61 : (xt_sg (S.2.1 54) n (b + 1 + 4)) = nI 61) (hh1 : ¬ ((nI 48 ≤ (xt_sg (S.2.1 54) n (b + 1 + 4 + 1)) ∧ (xt_sg (S.2.1 54) n (b + 1 + 4 + 1)) ≤ nI 57) ∨ (nI 97 ≤ (xt_sg (S.2.1 54) n (b + 1 + 4 + 1)) ∧ (xt_sg (S.2.1 54) n (b + 1 + 4 + 1)) ≤ nI 102))) : xt_Ct E l yX6_item cX6_item 5 (some Jvm.ClassFile.FieldType.int) 3 64 0 0 [.ref (E.1 49)] S (xt_Ep (some (.int (-1))) (fun S9 => ∃ g, S9 = (xt_sA (xt_sN S 49 9 (nI (b + 1 + 4 + 1))) 66 g))) := by
  refine xt_body (by decide +kernel) (xt_all rfl) (Nat.le_of_ble_eq_true rfl) (fun cx C hl9 => ?_)
  show xt_X E cx _ 0 0 0 [some (.ref (E.1 49)), none, none, none, none] [] S
  have hnU : ∀ (q : Int32) (g : Nat → Int32), (xt_sA (xt_sN S 49 9 q) 66 g).1 49 8 = nI n := fun q g => by
    show (xt_sN S 49 9 q).1 49 8 = nI n
    rw [xt_sN_o (by omega)]
    exact hn
  have hbU : ∀ (q : Int32) (g : Nat → Int32), (xt_sA (xt_sN S 49 9 q) 66 g).1 49 9 = q := fun q g => by
    show (xt_sN S 49 9 q).1 49 9 = q
    exact xt_s2_v
  have hn1 : (xt_sN S 49 9 (nI (b + 1))).1 49 8 = nI n := (xt_sN_o (by omega)).trans hn
  refine xt_aload_n C dX6_item_0 rfl ?_
  refine xt_cV C mv_X6_here lkX6_226 (ct_here hn h60 ha9 (by omega)) rfl (by decide) (xt_cl49 _ _) rfl (by decide) rfl (Nat.le_of_ble_eq_true rfl) dX6_item_1 ?_
  rw [hx]
  refine xt_istore_n (lo' := [_, _, _, _, _]) C dX6_item_4 (Nat.le_of_ble_eq_true rfl) rfl rfl ?_
  refine xt_iload_n C dX6_item_5 rfl ?_
  refine xt_bipush (v := nI 114) C dX6_item_6 (by decide) ?_
  refine xt_icmp_eqN (tgt := 23) C dX6_item_8 (by decide) (by omega) (by omega) (fun c8 => ?_) (fun c8 => ?_)
  · refine xt_aload_n C dX6_item_23 rfl ?_
    refine xt_dup C dX6_item_24 rfl ?_
    refine xt_get (f := 9) C xt_u6 rfl (by decide) (xt_cl49 _ _) (by decide) lkX6_223 (xt_vI (by exact ha9)) dX6_item_25 ?_
    refine xt_iconst (v := nI 1) C dX6_item_28 rfl ?_
    refine xt_iaddN C dX6_item_29 ?_
    refine xt_put (f := 9) C xt_u6 rfl (by decide) (xt_cl49 _ _) (by decide) tyX6 tyX6_ok nmX6 lkX6_223 rfl (tyX6_ok 9 (by decide)) rfl rfl (Nat.le_of_ble_eq_true rfl) rfl dX6_item_30 ?_
    refine xt_aload_n C dX6_item_33 rfl ?_
    refine xt_cVp C mv_X6_places lkX6_229 (ct_places1 (S := (xt_sN S 49 9 (nI (b + 1)))) (b := b + 1) hn1 h60 xt_s2_v (by omega) h4) rfl (by decide) (xt_cl49 _ _) rfl (by decide) rfl (Nat.le_of_ble_eq_true rfl) dX6_item_34 (fun S9 hq9 => ?_)
    obtain ⟨g, rfl, hg⟩ := hq9
    rw [xt_s2_s]
    refine xt_if_neN (tgt := 42) C dX6_item_37 (by decide) (by omega) (fun c37 => ?_) (fun c37 => ?_)
    · refine xt_iload_n C dX6_item_42 rfl ?_
      refine xt_bipush (v := nI 109) C dX6_item_43 (by decide) ?_
      refine xt_icmp_neN (tgt := 52) C dX6_item_45 (by decide) (by omega) (by omega) (fun c45 => ?_) (fun c45 => ?_)
      · refine xt_iconst (v := nI 0) C dX6_item_52 rfl ?_
        refine xt_istore_n (lo' := [_, _, _, _, _]) C dX6_item_53 (Nat.le_of_ble_eq_true rfl) rfl rfl ?_
        refine xt_iload_n C dX6_item_54 rfl ?_
        refine xt_bipush (v := nI 114) C dX6_item_55 (by decide) ?_
        refine xt_icmp_neN (tgt := 105) C dX6_item_57 (by decide) (by omega) (by omega) (fun c57 => ?_) (fun c57 => ?_)
        · exact absurd rfl c57
        · refine xt_aload_n C dX6_item_60 rfl ?_
          refine xt_bipush (v := nI 61) C dX6_item_61 (by decide) ?_
          refine xt_cV C mv_X6_takesOne lkX6_233 (ct_tone1 (S := (xt_sA (xt_sN S 49 9 (nI (b + 1 + 4))) 66 g)) (b := b + 1 + 4) (hnU _ _) h60 (hbU _ _) (by omega) hq61) rfl (by decide) (xt_cl49 _ _) rfl (by decide) rfl (Nat.le_of_ble_eq_true rfl) dX6_item_63 ?_
          rw [xt_U1]
          refine xt_if_neN (tgt := 71) C dX6_item_66 (by decide) (by omega) (fun c66 => ?_) (fun c66 => ?_)
          · refine xt_aload_n C dX6_item_71 rfl ?_
            refine xt_cV C mv_X6_hex lkX6_236 (ct_hex0 (S := (xt_sA (xt_sN S 49 9 (nI (b + 1 + 4 + 1))) 66 g)) (b := b + 1 + 4 + 1) (hnU _ _) h60 (hbU _ _) (by omega) hh1) rfl (by decide) (xt_cl49 _ _) rfl (by decide) rfl (Nat.le_of_ble_eq_true rfl) dX6_item_72 ?_
            refine xt_istore_n (lo' := [_, _, _, _, _]) C dX6_item_75 (Nat.le_of_ble_eq_true rfl) rfl rfl ?_
            refine xt_iload_n C dX6_item_76 rfl ?_
            refine xt_if_ge (tgt := 84) C dX6_item_77 (by decide) (fun c77 => ?_) (fun c77 => ?_)
            · exact absurd c77 (by decide)
            · refine xt_iconst (v := -1) C dX6_item_80 rfl ?_
              refine xt_goto (tgt := 88) C dX6_item_81 (by decide) ?_
              refine xt_istore (lo' := [_, _, _, _, _]) C dX6_item_88 (Nat.le_of_ble_eq_true rfl) rfl rfl ?_
              refine xt_iload C dX6_item_90 rfl ?_
              refine xt_if_ge (tgt := 97) C dX6_item_92 (by decide) (fun c92 => ?_) (fun c92 => ?_)
              · exact absurd c92 (by decide)
              · refine xt_iconst (v := -1) C dX6_item_95 rfl ?_
                exact xt_iret C dX6_item_96 ⟨by decide, by decide⟩ ⟨rfl, g, rfl⟩
          · exact absurd c66 (by omega)
      · exact absurd c45 (by decide)
    · exact absurd c37 (by omega)
  · exact absurd rfl c8
set_option maxRecDepth 20000 in
set_option maxHeartbeats 2000000 in
theorem ct_item_h2 {n b : Nat} (hn : S.1 49 8 = nI n) (h60 : n ≤ 60) (ha9 : S.1 49 9 = nI b) (hb9 : b < 900) (hx : (xt_sg (S.2.1 54) n b) = nI 114) (h4 : ∀ k, k < 4 → xt_pf9 k (xt_sg (S.2.1 54) n (b + 1 + k))) (hq61 : (xt_sg (S.2.1 54) n (b + 1 + 4)) = nI 61) (hh1 : ((nI 48 ≤ (xt_sg (S.2.1 54) n (b + 1 + 4 + 1)) ∧ (xt_sg (S.2.1 54) n (b + 1 + 4 + 1)) ≤ nI 57) ∨ (nI 97 ≤ (xt_sg (S.2.1 54) n (b + 1 + 4 + 1)) ∧ (xt_sg (S.2.1 54) n (b + 1 + 4 + 1)) ≤ nI 102))) (hh2 : ¬ ((nI 48 ≤ (xt_sg (S.2.1 54) n (b + 1 + 4 + 2)) ∧ (xt_sg (S.2.1 54) n (b + 1 + 4 + 2)) ≤ nI 57) ∨ (nI 97 ≤ (xt_sg (S.2.1 54) n (b + 1 + 4 + 2)) ∧ (xt_sg (S.2.1 54) n (b + 1 + 4 + 2)) ≤ nI 102))) : xt_Ct E l yX6_item cX6_item 5 (some Jvm.ClassFile.FieldType.int) 3 64 0 0 [.ref (E.1 49)] S (xt_Ep (some (.int (-1))) (fun S9 => ∃ g, S9 = (xt_sA (xt_sN S 49 9 (nI (b + 1 + 4 + 2))) 66 g))) := by
  refine xt_body (by decide +kernel) (xt_all rfl) (Nat.le_of_ble_eq_true rfl) (fun cx C hl9 => ?_)
  show xt_X E cx _ 0 0 0 [some (.ref (E.1 49)), none, none, none, none] [] S
  have hnU : ∀ (q : Int32) (g : Nat → Int32), (xt_sA (xt_sN S 49 9 q) 66 g).1 49 8 = nI n := fun q g => by
    show (xt_sN S 49 9 q).1 49 8 = nI n
    rw [xt_sN_o (by omega)]
    exact hn
  have hbU : ∀ (q : Int32) (g : Nat → Int32), (xt_sA (xt_sN S 49 9 q) 66 g).1 49 9 = q := fun q g => by
    show (xt_sN S 49 9 q).1 49 9 = q
    exact xt_s2_v
  have hn1 : (xt_sN S 49 9 (nI (b + 1))).1 49 8 = nI n := (xt_sN_o (by omega)).trans hn
  obtain ⟨m1, hm1, em1⟩ := xt_hx_r hh1
  refine xt_aload_n C dX6_item_0 rfl ?_
  refine xt_cV C mv_X6_here lkX6_226 (ct_here hn h60 ha9 (by omega)) rfl (by decide) (xt_cl49 _ _) rfl (by decide) rfl (Nat.le_of_ble_eq_true rfl) dX6_item_1 ?_
  rw [hx]
  refine xt_istore_n (lo' := [_, _, _, _, _]) C dX6_item_4 (Nat.le_of_ble_eq_true rfl) rfl rfl ?_
  refine xt_iload_n C dX6_item_5 rfl ?_
  refine xt_bipush (v := nI 114) C dX6_item_6 (by decide) ?_
  refine xt_icmp_eqN (tgt := 23) C dX6_item_8 (by decide) (by omega) (by omega) (fun c8 => ?_) (fun c8 => ?_)
  · refine xt_aload_n C dX6_item_23 rfl ?_
    refine xt_dup C dX6_item_24 rfl ?_
    refine xt_get (f := 9) C xt_u6 rfl (by decide) (xt_cl49 _ _) (by decide) lkX6_223 (xt_vI (by exact ha9)) dX6_item_25 ?_
    refine xt_iconst (v := nI 1) C dX6_item_28 rfl ?_
    refine xt_iaddN C dX6_item_29 ?_
    refine xt_put (f := 9) C xt_u6 rfl (by decide) (xt_cl49 _ _) (by decide) tyX6 tyX6_ok nmX6 lkX6_223 rfl (tyX6_ok 9 (by decide)) rfl rfl (Nat.le_of_ble_eq_true rfl) rfl dX6_item_30 ?_
    refine xt_aload_n C dX6_item_33 rfl ?_
    refine xt_cVp C mv_X6_places lkX6_229 (ct_places1 (S := (xt_sN S 49 9 (nI (b + 1)))) (b := b + 1) hn1 h60 xt_s2_v (by omega) h4) rfl (by decide) (xt_cl49 _ _) rfl (by decide) rfl (Nat.le_of_ble_eq_true rfl) dX6_item_34 (fun S9 hq9 => ?_)
    obtain ⟨g, rfl, hg⟩ := hq9
    rw [xt_s2_s]
    refine xt_if_neN (tgt := 42) C dX6_item_37 (by decide) (by omega) (fun c37 => ?_) (fun c37 => ?_)
    · refine xt_iload_n C dX6_item_42 rfl ?_
      refine xt_bipush (v := nI 109) C dX6_item_43 (by decide) ?_
      refine xt_icmp_neN (tgt := 52) C dX6_item_45 (by decide) (by omega) (by omega) (fun c45 => ?_) (fun c45 => ?_)
      · refine xt_iconst (v := nI 0) C dX6_item_52 rfl ?_
        refine xt_istore_n (lo' := [_, _, _, _, _]) C dX6_item_53 (Nat.le_of_ble_eq_true rfl) rfl rfl ?_
        refine xt_iload_n C dX6_item_54 rfl ?_
        refine xt_bipush (v := nI 114) C dX6_item_55 (by decide) ?_
        refine xt_icmp_neN (tgt := 105) C dX6_item_57 (by decide) (by omega) (by omega) (fun c57 => ?_) (fun c57 => ?_)
        · exact absurd rfl c57
        · refine xt_aload_n C dX6_item_60 rfl ?_
          refine xt_bipush (v := nI 61) C dX6_item_61 (by decide) ?_
          refine xt_cV C mv_X6_takesOne lkX6_233 (ct_tone1 (S := (xt_sA (xt_sN S 49 9 (nI (b + 1 + 4))) 66 g)) (b := b + 1 + 4) (hnU _ _) h60 (hbU _ _) (by omega) hq61) rfl (by decide) (xt_cl49 _ _) rfl (by decide) rfl (Nat.le_of_ble_eq_true rfl) dX6_item_63 ?_
          rw [xt_U1]
          refine xt_if_neN (tgt := 71) C dX6_item_66 (by decide) (by omega) (fun c66 => ?_) (fun c66 => ?_)
          · refine xt_aload_n C dX6_item_71 rfl ?_
            refine xt_cV C mv_X6_hex lkX6_236 (ct_hex1 (S := (xt_sA (xt_sN S 49 9 (nI (b + 1 + 4 + 1))) 66 g)) (b := b + 1 + 4 + 1) (hnU _ _) h60 (hbU _ _) (by omega) hh1) rfl (by decide) (xt_cl49 _ _) rfl (by decide) rfl (Nat.le_of_ble_eq_true rfl) dX6_item_72 ?_
            rw [xt_U1]
            refine xt_istore_n (lo' := [_, _, _, _, _]) C dX6_item_75 (Nat.le_of_ble_eq_true rfl) rfl rfl ?_
            refine xt_iload_n C dX6_item_76 rfl ?_
            refine xt_if_ge (tgt := 84) C dX6_item_77 (by decide) (fun c77 => ?_) (fun c77 => ?_)
            · refine xt_aload_n C dX6_item_84 rfl ?_
              refine xt_cV C mv_X6_hex lkX6_236 (ct_hex0 (S := (xt_sA (xt_sN S 49 9 (nI (b + 1 + 4 + 2))) 66 g)) (b := b + 1 + 4 + 2) (hnU _ _) h60 (hbU _ _) (by omega) hh2) rfl (by decide) (xt_cl49 _ _) rfl (by decide) rfl (Nat.le_of_ble_eq_true rfl) dX6_item_85 ?_
              refine xt_istore (lo' := [_, _, _, _, _]) C dX6_item_88 (Nat.le_of_ble_eq_true rfl) rfl rfl ?_
              refine xt_iload C dX6_item_90 rfl ?_
              refine xt_if_ge (tgt := 97) C dX6_item_92 (by decide) (fun c92 => ?_) (fun c92 => ?_)
              · exact absurd c92 (by decide)
              · refine xt_iconst (v := -1) C dX6_item_95 rfl ?_
                exact xt_iret C dX6_item_96 ⟨by decide, by decide⟩ ⟨rfl, g, rfl⟩
            · exact absurd (show 0 ≤ xt_hx (xt_sg (S.2.1 54) n (b + 1 + 4 + 1)) from by rw [em1]; exact nI_pos' (by omega)) c77
          · exact absurd c66 (by omega)
      · exact absurd c45 (by decide)
    · exact absurd c37 (by omega)
  · exact absurd rfl c8
set_option maxRecDepth 20000 in
set_option maxHeartbeats 2000000 in
theorem ct_item_w114 {n b : Nat} (hn : S.1 49 8 = nI n) (h60 : n ≤ 60) (ha9 : S.1 49 9 = nI b) (hb9 : b < 900) (hx : (xt_sg (S.2.1 54) n b) = nI 114) {c r sd lv bo : Nat} (hM : xt_Mp S c r sd lv bo) (h4 : ∀ k, k < 4 → xt_pf9 k (xt_sg (S.2.1 54) n (b + 1 + k))) (hq61 : (xt_sg (S.2.1 54) n (b + 1 + 4)) = nI 61) (hh1 : ((nI 48 ≤ (xt_sg (S.2.1 54) n (b + 1 + 4 + 1)) ∧ (xt_sg (S.2.1 54) n (b + 1 + 4 + 1)) ≤ nI 57) ∨ (nI 97 ≤ (xt_sg (S.2.1 54) n (b + 1 + 4 + 1)) ∧ (xt_sg (S.2.1 54) n (b + 1 + 4 + 1)) ≤ nI 102))) (hh2 : ((nI 48 ≤ (xt_sg (S.2.1 54) n (b + 1 + 4 + 2)) ∧ (xt_sg (S.2.1 54) n (b + 1 + 4 + 2)) ≤ nI 57) ∨ (nI 97 ≤ (xt_sg (S.2.1 54) n (b + 1 + 4 + 2)) ∧ (xt_sg (S.2.1 54) n (b + 1 + 4 + 2)) ≤ nI 102))) {x0 x1 x2 x3 : Int32} (e0 : xt_sg (S.2.1 54) n (b + 1) - nI 97 = x0) (e1 : xt_sg (S.2.1 54) n (b + 2) - nI 65 = x1) (e2 : xt_sg (S.2.1 54) n (b + 3) - nI 97 = x2) (e3 : xt_sg (S.2.1 54) n (b + 4) - nI 65 = x3) (hW : ¬ xt_wc c r x0 x1 x2 x3 = 0) : xt_Ct E l yX6_item cX6_item 5 (some Jvm.ClassFile.FieldType.int) 3 64 0 0 [.ref (E.1 49)] S (xt_Ep (some (.int (xt_wc c r x0 x1 x2 x3))) (fun S9 => ∃ g, S9 = (xt_sA (xt_sN S 49 9 (nI (b + 1 + 4 + 3))) 66 g))) := by
  refine xt_body (by decide +kernel) (xt_all rfl) (Nat.le_of_ble_eq_true rfl) (fun cx C hl9 => ?_)
  show xt_X E cx _ 0 0 0 [some (.ref (E.1 49)), none, none, none, none] [] S
  have hM9 := hM
  obtain ⟨hc, hr, hs, hv, hb, b1, b2, b3, b4, b5, b6, b7⟩ := hM
  have hnU : ∀ (q : Int32) (g : Nat → Int32), (xt_sA (xt_sN S 49 9 q) 66 g).1 49 8 = nI n := fun q g => by
    show (xt_sN S 49 9 q).1 49 8 = nI n
    rw [xt_sN_o (by omega)]
    exact hn
  have hbU : ∀ (q : Int32) (g : Nat → Int32), (xt_sA (xt_sN S 49 9 q) 66 g).1 49 9 = q := fun q g => by
    show (xt_sN S 49 9 q).1 49 9 = q
    exact xt_s2_v
  have hn1 : (xt_sN S 49 9 (nI (b + 1))).1 49 8 = nI n := (xt_sN_o (by omega)).trans hn
  obtain ⟨m1, hm1, em1⟩ := xt_hx_r hh1
  obtain ⟨m2, hm2, em2⟩ := xt_hx_r hh2
  refine xt_aload_n C dX6_item_0 rfl ?_
  refine xt_cV C mv_X6_here lkX6_226 (ct_here hn h60 ha9 (by omega)) rfl (by decide) (xt_cl49 _ _) rfl (by decide) rfl (Nat.le_of_ble_eq_true rfl) dX6_item_1 ?_
  rw [hx]
  refine xt_istore_n (lo' := [_, _, _, _, _]) C dX6_item_4 (Nat.le_of_ble_eq_true rfl) rfl rfl ?_
  refine xt_iload_n C dX6_item_5 rfl ?_
  refine xt_bipush (v := nI 114) C dX6_item_6 (by decide) ?_
  refine xt_icmp_eqN (tgt := 23) C dX6_item_8 (by decide) (by omega) (by omega) (fun c8 => ?_) (fun c8 => ?_)
  · refine xt_aload_n C dX6_item_23 rfl ?_
    refine xt_dup C dX6_item_24 rfl ?_
    refine xt_get (f := 9) C xt_u6 rfl (by decide) (xt_cl49 _ _) (by decide) lkX6_223 (xt_vI (by exact ha9)) dX6_item_25 ?_
    refine xt_iconst (v := nI 1) C dX6_item_28 rfl ?_
    refine xt_iaddN C dX6_item_29 ?_
    refine xt_put (f := 9) C xt_u6 rfl (by decide) (xt_cl49 _ _) (by decide) tyX6 tyX6_ok nmX6 lkX6_223 rfl (tyX6_ok 9 (by decide)) rfl rfl (Nat.le_of_ble_eq_true rfl) rfl dX6_item_30 ?_
    refine xt_aload_n C dX6_item_33 rfl ?_
    refine xt_cVp C mv_X6_places lkX6_229 (ct_places1 (S := (xt_sN S 49 9 (nI (b + 1)))) (b := b + 1) hn1 h60 xt_s2_v (by omega) h4) rfl (by decide) (xt_cl49 _ _) rfl (by decide) rfl (Nat.le_of_ble_eq_true rfl) dX6_item_34 (fun S9 hq9 => ?_)
    obtain ⟨g, rfl, hg⟩ := hq9
    rw [xt_s2_s]
    refine xt_if_neN (tgt := 42) C dX6_item_37 (by decide) (by omega) (fun c37 => ?_) (fun c37 => ?_)
    · refine xt_iload_n C dX6_item_42 rfl ?_
      refine xt_bipush (v := nI 109) C dX6_item_43 (by decide) ?_
      refine xt_icmp_neN (tgt := 52) C dX6_item_45 (by decide) (by omega) (by omega) (fun c45 => ?_) (fun c45 => ?_)
      · refine xt_iconst (v := nI 0) C dX6_item_52 rfl ?_
        refine xt_istore_n (lo' := [_, _, _, _, _]) C dX6_item_53 (Nat.le_of_ble_eq_true rfl) rfl rfl ?_
        refine xt_iload_n C dX6_item_54 rfl ?_
        refine xt_bipush (v := nI 114) C dX6_item_55 (by decide) ?_
        refine xt_icmp_neN (tgt := 105) C dX6_item_57 (by decide) (by omega) (by omega) (fun c57 => ?_) (fun c57 => ?_)
        · exact absurd rfl c57
        · refine xt_aload_n C dX6_item_60 rfl ?_
          refine xt_bipush (v := nI 61) C dX6_item_61 (by decide) ?_
          refine xt_cV C mv_X6_takesOne lkX6_233 (ct_tone1 (S := (xt_sA (xt_sN S 49 9 (nI (b + 1 + 4))) 66 g)) (b := b + 1 + 4) (hnU _ _) h60 (hbU _ _) (by omega) hq61) rfl (by decide) (xt_cl49 _ _) rfl (by decide) rfl (Nat.le_of_ble_eq_true rfl) dX6_item_63 ?_
          rw [xt_U1]
          refine xt_if_neN (tgt := 71) C dX6_item_66 (by decide) (by omega) (fun c66 => ?_) (fun c66 => ?_)
          · refine xt_aload_n C dX6_item_71 rfl ?_
            refine xt_cV C mv_X6_hex lkX6_236 (ct_hex1 (S := (xt_sA (xt_sN S 49 9 (nI (b + 1 + 4 + 1))) 66 g)) (b := b + 1 + 4 + 1) (hnU _ _) h60 (hbU _ _) (by omega) hh1) rfl (by decide) (xt_cl49 _ _) rfl (by decide) rfl (Nat.le_of_ble_eq_true rfl) dX6_item_72 ?_
            rw [xt_U1]
            refine xt_istore_n (lo' := [_, _, _, _, _]) C dX6_item_75 (Nat.le_of_ble_eq_true rfl) rfl rfl ?_
            refine xt_iload_n C dX6_item_76 rfl ?_
            refine xt_if_ge (tgt := 84) C dX6_item_77 (by decide) (fun c77 => ?_) (fun c77 => ?_)
            · refine xt_aload_n C dX6_item_84 rfl ?_
              refine xt_cV C mv_X6_hex lkX6_236 (ct_hex1 (S := (xt_sA (xt_sN S 49 9 (nI (b + 1 + 4 + 2))) 66 g)) (b := b + 1 + 4 + 2) (hnU _ _) h60 (hbU _ _) (by omega) hh2) rfl (by decide) (xt_cl49 _ _) rfl (by decide) rfl (Nat.le_of_ble_eq_true rfl) dX6_item_85 ?_
              rw [xt_U1]
              refine xt_istore (lo' := [_, _, _, _, _]) C dX6_item_88 (Nat.le_of_ble_eq_true rfl) rfl rfl ?_
              refine xt_iload C dX6_item_90 rfl ?_
              refine xt_if_ge (tgt := 97) C dX6_item_92 (by decide) (fun c92 => ?_) (fun c92 => ?_)
              · refine xt_bipush (v := nI 16) C dX6_item_97 (by decide) ?_
                refine xt_iload_n C dX6_item_99 rfl ?_
                refine xt_imul C dX6_item_100 ?_
                refine xt_iload C dX6_item_101 rfl ?_
                refine xt_iadd C dX6_item_103 ?_
                refine xt_istore_n (lo' := [_, _, _, _, _]) C dX6_item_104 (Nat.le_of_ble_eq_true rfl) rfl rfl ?_
                refine xt_aload_n C dX6_item_105 rfl ?_
                refine xt_cV C mv_X6_whyCorner lkX6_239 (ct_whyCorner (S := (xt_sA (xt_sN S 49 9 (nI (b + 1 + 4 + 3))) 66 g)) (by unfold xt_Mp; rw [xt_sA_n (by decide)]; exact hM9) (show (xt_sA (xt_sN S 49 9 (nI (b + 1 + 4 + 3))) 66 g).2.1 66 0 = x0 from by rw [xt_sA_s]; exact (hg 0 (by decide)).trans e0) (show (xt_sA (xt_sN S 49 9 (nI (b + 1 + 4 + 3))) 66 g).2.1 66 1 = x1 from by rw [xt_sA_s]; exact (hg 1 (by decide)).trans e1) (show (xt_sA (xt_sN S 49 9 (nI (b + 1 + 4 + 3))) 66 g).2.1 66 2 = x2 from by rw [xt_sA_s]; exact (hg 2 (by decide)).trans e2) (show (xt_sA (xt_sN S 49 9 (nI (b + 1 + 4 + 3))) 66 g).2.1 66 3 = x3 from by rw [xt_sA_s]; exact (hg 3 (by decide)).trans e3)) rfl (by decide) (xt_cl49 _ _) rfl (by decide) rfl (Nat.le_of_ble_eq_true rfl) dX6_item_106 ?_
                refine xt_istore_n (lo' := [_, _, _, _, _]) C dX6_item_109 (Nat.le_of_ble_eq_true rfl) rfl rfl ?_
                refine xt_iload_n C dX6_item_110 rfl ?_
                refine xt_if_ne (tgt := 165) C dX6_item_111 (by decide) (fun c111 => ?_) (fun c111 => ?_)
                · refine xt_iload_n C dX6_item_165 rfl ?_
                  exact xt_iret C dX6_item_166 ⟨by decide, by decide⟩ ⟨rfl, g, rfl⟩
                · exact absurd c111 hW
              · exact absurd (show 0 ≤ xt_hx (xt_sg (S.2.1 54) n (b + 1 + 4 + 2)) from by rw [em2]; exact nI_pos' (by omega)) c92
            · exact absurd (show 0 ≤ xt_hx (xt_sg (S.2.1 54) n (b + 1 + 4 + 1)) from by rw [em1]; exact nI_pos' (by omega)) c77
          · exact absurd c66 (by omega)
      · exact absurd c45 (by decide)
    · exact absurd c37 (by omega)
  · exact absurd rfl c8
set_option maxRecDepth 20000 in
set_option maxHeartbeats 2000000 in
theorem ct_item_o114 {n b : Nat} (hn : S.1 49 8 = nI n) (h60 : n ≤ 60) (ha9 : S.1 49 9 = nI b) (hb9 : b < 900) (hx : (xt_sg (S.2.1 54) n b) = nI 114) {c r sd lv bo : Nat} (hM : xt_Mp S c r sd lv bo) (h4 : ∀ k, k < 4 → xt_pf9 k (xt_sg (S.2.1 54) n (b + 1 + k))) (hq61 : (xt_sg (S.2.1 54) n (b + 1 + 4)) = nI 61) (hh1 : ((nI 48 ≤ (xt_sg (S.2.1 54) n (b + 1 + 4 + 1)) ∧ (xt_sg (S.2.1 54) n (b + 1 + 4 + 1)) ≤ nI 57) ∨ (nI 97 ≤ (xt_sg (S.2.1 54) n (b + 1 + 4 + 1)) ∧ (xt_sg (S.2.1 54) n (b + 1 + 4 + 1)) ≤ nI 102))) (hh2 : ((nI 48 ≤ (xt_sg (S.2.1 54) n (b + 1 + 4 + 2)) ∧ (xt_sg (S.2.1 54) n (b + 1 + 4 + 2)) ≤ nI 57) ∨ (nI 97 ≤ (xt_sg (S.2.1 54) n (b + 1 + 4 + 2)) ∧ (xt_sg (S.2.1 54) n (b + 1 + 4 + 2)) ≤ nI 102))) {lf tp w h : Nat} (hw : lf + w ≤ c) (hh : tp + h ≤ r) (hw0 : 0 < w) (hh0 : 0 < h) (ht0 : S.2.1 53 0 = nI c) (e0 : xt_sg (S.2.1 54) n (b + 1) - nI 97 = nI lf) (e1 : xt_sg (S.2.1 54) n (b + 2) - nI 65 = nI tp) (e2 : xt_sg (S.2.1 54) n (b + 3) - nI 97 = nI (lf + w - 1)) (e3 : xt_sg (S.2.1 54) n (b + 4) - nI 65 = nI (tp + h - 1)) : xt_Ct E l yX6_item cX6_item 5 (some Jvm.ClassFile.FieldType.int) 3 64 0 0 [.ref (E.1 49)] S (xt_Ep (some (.int (nI 0))) (fun S9 => ∃ g W, S9 = xt_sA (xt_sA (xt_sN S 49 9 (nI (b + 1 + 4 + 3))) 66 g) 53 W ∧ xt_fl9 5 W (xt_paint c lf tp w h (nI 16 * xt_hx (xt_sg (S.2.1 54) n (b + 1 + 4 + 1)) + xt_hx (xt_sg (S.2.1 54) n (b + 1 + 4 + 2))) (fun j => S.2.1 53 (5 + j))).1 (S.2.1 53))) := by
  refine xt_body (by decide +kernel) (xt_all rfl) (Nat.le_of_ble_eq_true rfl) (fun cx C hl9 => ?_)
  show xt_X E cx _ 0 0 0 [some (.ref (E.1 49)), none, none, none, none] [] S
  have hM9 := hM
  obtain ⟨hc, hr, hs, hv, hb, b1, b2, b3, b4, b5, b6, b7⟩ := hM
  have hnU : ∀ (q : Int32) (g : Nat → Int32), (xt_sA (xt_sN S 49 9 q) 66 g).1 49 8 = nI n := fun q g => by
    show (xt_sN S 49 9 q).1 49 8 = nI n
    rw [xt_sN_o (by omega)]
    exact hn
  have hbU : ∀ (q : Int32) (g : Nat → Int32), (xt_sA (xt_sN S 49 9 q) 66 g).1 49 9 = q := fun q g => by
    show (xt_sN S 49 9 q).1 49 9 = q
    exact xt_s2_v
  have hn1 : (xt_sN S 49 9 (nI (b + 1))).1 49 8 = nI n := (xt_sN_o (by omega)).trans hn
  obtain ⟨m1, hm1, em1⟩ := xt_hx_r hh1
  obtain ⟨m2, hm2, em2⟩ := xt_hx_r hh2
  refine xt_aload_n C dX6_item_0 rfl ?_
  refine xt_cV C mv_X6_here lkX6_226 (ct_here hn h60 ha9 (by omega)) rfl (by decide) (xt_cl49 _ _) rfl (by decide) rfl (Nat.le_of_ble_eq_true rfl) dX6_item_1 ?_
  rw [hx]
  refine xt_istore_n (lo' := [_, _, _, _, _]) C dX6_item_4 (Nat.le_of_ble_eq_true rfl) rfl rfl ?_
  refine xt_iload_n C dX6_item_5 rfl ?_
  refine xt_bipush (v := nI 114) C dX6_item_6 (by decide) ?_
  refine xt_icmp_eqN (tgt := 23) C dX6_item_8 (by decide) (by omega) (by omega) (fun c8 => ?_) (fun c8 => ?_)
  · refine xt_aload_n C dX6_item_23 rfl ?_
    refine xt_dup C dX6_item_24 rfl ?_
    refine xt_get (f := 9) C xt_u6 rfl (by decide) (xt_cl49 _ _) (by decide) lkX6_223 (xt_vI (by exact ha9)) dX6_item_25 ?_
    refine xt_iconst (v := nI 1) C dX6_item_28 rfl ?_
    refine xt_iaddN C dX6_item_29 ?_
    refine xt_put (f := 9) C xt_u6 rfl (by decide) (xt_cl49 _ _) (by decide) tyX6 tyX6_ok nmX6 lkX6_223 rfl (tyX6_ok 9 (by decide)) rfl rfl (Nat.le_of_ble_eq_true rfl) rfl dX6_item_30 ?_
    refine xt_aload_n C dX6_item_33 rfl ?_
    refine xt_cVp C mv_X6_places lkX6_229 (ct_places1 (S := (xt_sN S 49 9 (nI (b + 1)))) (b := b + 1) hn1 h60 xt_s2_v (by omega) h4) rfl (by decide) (xt_cl49 _ _) rfl (by decide) rfl (Nat.le_of_ble_eq_true rfl) dX6_item_34 (fun S9 hq9 => ?_)
    obtain ⟨g, rfl, hg⟩ := hq9
    rw [xt_s2_s]
    refine xt_if_neN (tgt := 42) C dX6_item_37 (by decide) (by omega) (fun c37 => ?_) (fun c37 => ?_)
    · refine xt_iload_n C dX6_item_42 rfl ?_
      refine xt_bipush (v := nI 109) C dX6_item_43 (by decide) ?_
      refine xt_icmp_neN (tgt := 52) C dX6_item_45 (by decide) (by omega) (by omega) (fun c45 => ?_) (fun c45 => ?_)
      · refine xt_iconst (v := nI 0) C dX6_item_52 rfl ?_
        refine xt_istore_n (lo' := [_, _, _, _, _]) C dX6_item_53 (Nat.le_of_ble_eq_true rfl) rfl rfl ?_
        refine xt_iload_n C dX6_item_54 rfl ?_
        refine xt_bipush (v := nI 114) C dX6_item_55 (by decide) ?_
        refine xt_icmp_neN (tgt := 105) C dX6_item_57 (by decide) (by omega) (by omega) (fun c57 => ?_) (fun c57 => ?_)
        · exact absurd rfl c57
        · refine xt_aload_n C dX6_item_60 rfl ?_
          refine xt_bipush (v := nI 61) C dX6_item_61 (by decide) ?_
          refine xt_cV C mv_X6_takesOne lkX6_233 (ct_tone1 (S := (xt_sA (xt_sN S 49 9 (nI (b + 1 + 4))) 66 g)) (b := b + 1 + 4) (hnU _ _) h60 (hbU _ _) (by omega) hq61) rfl (by decide) (xt_cl49 _ _) rfl (by decide) rfl (Nat.le_of_ble_eq_true rfl) dX6_item_63 ?_
          rw [xt_U1]
          refine xt_if_neN (tgt := 71) C dX6_item_66 (by decide) (by omega) (fun c66 => ?_) (fun c66 => ?_)
          · refine xt_aload_n C dX6_item_71 rfl ?_
            refine xt_cV C mv_X6_hex lkX6_236 (ct_hex1 (S := (xt_sA (xt_sN S 49 9 (nI (b + 1 + 4 + 1))) 66 g)) (b := b + 1 + 4 + 1) (hnU _ _) h60 (hbU _ _) (by omega) hh1) rfl (by decide) (xt_cl49 _ _) rfl (by decide) rfl (Nat.le_of_ble_eq_true rfl) dX6_item_72 ?_
            rw [xt_U1]
            refine xt_istore_n (lo' := [_, _, _, _, _]) C dX6_item_75 (Nat.le_of_ble_eq_true rfl) rfl rfl ?_
            refine xt_iload_n C dX6_item_76 rfl ?_
            refine xt_if_ge (tgt := 84) C dX6_item_77 (by decide) (fun c77 => ?_) (fun c77 => ?_)
            · refine xt_aload_n C dX6_item_84 rfl ?_
              refine xt_cV C mv_X6_hex lkX6_236 (ct_hex1 (S := (xt_sA (xt_sN S 49 9 (nI (b + 1 + 4 + 2))) 66 g)) (b := b + 1 + 4 + 2) (hnU _ _) h60 (hbU _ _) (by omega) hh2) rfl (by decide) (xt_cl49 _ _) rfl (by decide) rfl (Nat.le_of_ble_eq_true rfl) dX6_item_85 ?_
              rw [xt_U1]
              refine xt_istore (lo' := [_, _, _, _, _]) C dX6_item_88 (Nat.le_of_ble_eq_true rfl) rfl rfl ?_
              refine xt_iload C dX6_item_90 rfl ?_
              refine xt_if_ge (tgt := 97) C dX6_item_92 (by decide) (fun c92 => ?_) (fun c92 => ?_)
              · refine xt_bipush (v := nI 16) C dX6_item_97 (by decide) ?_
                refine xt_iload_n C dX6_item_99 rfl ?_
                refine xt_imul C dX6_item_100 ?_
                refine xt_iload C dX6_item_101 rfl ?_
                refine xt_iadd C dX6_item_103 ?_
                refine xt_istore_n (lo' := [_, _, _, _, _]) C dX6_item_104 (Nat.le_of_ble_eq_true rfl) rfl rfl ?_
                refine xt_aload_n C dX6_item_105 rfl ?_
                refine xt_cV C mv_X6_whyCorner lkX6_239 (ct_whyCorner (S := (xt_sA (xt_sN S 49 9 (nI (b + 1 + 4 + 3))) 66 g)) (by unfold xt_Mp; rw [xt_sA_n (by decide)]; exact hM9) (show (xt_sA (xt_sN S 49 9 (nI (b + 1 + 4 + 3))) 66 g).2.1 66 0 = nI lf from by rw [xt_sA_s]; exact (hg 0 (by decide)).trans e0) (show (xt_sA (xt_sN S 49 9 (nI (b + 1 + 4 + 3))) 66 g).2.1 66 1 = nI tp from by rw [xt_sA_s]; exact (hg 1 (by decide)).trans e1) (show (xt_sA (xt_sN S 49 9 (nI (b + 1 + 4 + 3))) 66 g).2.1 66 2 = nI (lf + w - 1) from by rw [xt_sA_s]; exact (hg 2 (by decide)).trans e2) (show (xt_sA (xt_sN S 49 9 (nI (b + 1 + 4 + 3))) 66 g).2.1 66 3 = nI (tp + h - 1) from by rw [xt_sA_s]; exact (hg 3 (by decide)).trans e3)) rfl (by decide) (xt_cl49 _ _) rfl (by decide) rfl (Nat.le_of_ble_eq_true rfl) dX6_item_106 ?_
                rw [xt_wc0 b2 b4 hw hh hw0 hh0]
                refine xt_istore_n (lo' := [_, _, _, _, _]) C dX6_item_109 (Nat.le_of_ble_eq_true rfl) rfl rfl ?_
                refine xt_iload_n C dX6_item_110 rfl ?_
                refine xt_if_ne (tgt := 165) C dX6_item_111 (by decide) (fun c111 => ?_) (fun c111 => ?_)
                · exact absurd rfl c111
                · refine xt_aload_n C dX6_item_114 rfl ?_
                  refine xt_aload_n C dX6_item_115 rfl ?_
                  refine xt_get (f := 6) C xt_u6 rfl (by decide) (xt_cl49 _ _) (by decide) lkX6_19 rfl dX6_item_116 ?_
                  refine xt_iload_n C dX6_item_119 rfl ?_
                  refine xt_bipush (v := nI 114) C dX6_item_120 (by decide) ?_
                  refine xt_icmp_neN (tgt := 129) C dX6_item_122 (by decide) (by omega) (by omega) (fun c122 => ?_) (fun c122 => ?_)
                  · exact absurd rfl c122
                  · refine xt_iconst (v := nI 5) C dX6_item_125 rfl ?_
                    refine xt_goto (tgt := 132) C dX6_item_126 (by decide) ?_
                    refine xt_aload_n C dX6_item_132 rfl ?_
                    refine xt_get (f := 28) C xt_u6 rfl (by decide) (xt_cl49 _ _) (by decide) lkX6_67 rfl dX6_item_133 ?_
                    refine xt_iconst (v := nI 0) C dX6_item_136 rfl ?_
                    refine xt_ialdN C (by decide) (xt_cl66 _) (by decide) (by decide) (show (xt_sA (xt_sN S 49 9 (nI (b + 1 + 4 + 3))) 66 g).2.1 66 0 = nI lf from by rw [xt_sA_s]; exact (hg 0 (by decide)).trans e0) dX6_item_137 ?_
                    refine xt_aload_n C dX6_item_138 rfl ?_
                    refine xt_get (f := 28) C xt_u6 rfl (by decide) (xt_cl49 _ _) (by decide) lkX6_67 rfl dX6_item_139 ?_
                    refine xt_iconst (v := nI 1) C dX6_item_142 rfl ?_
                    refine xt_ialdN C (by decide) (xt_cl66 _) (by decide) (by decide) (show (xt_sA (xt_sN S 49 9 (nI (b + 1 + 4 + 3))) 66 g).2.1 66 1 = nI tp from by rw [xt_sA_s]; exact (hg 1 (by decide)).trans e1) dX6_item_143 ?_
                    refine xt_aload_n C dX6_item_144 rfl ?_
                    refine xt_get (f := 28) C xt_u6 rfl (by decide) (xt_cl49 _ _) (by decide) lkX6_67 rfl dX6_item_145 ?_
                    refine xt_iconst (v := nI 2) C dX6_item_148 rfl ?_
                    refine xt_ialdN C (by decide) (xt_cl66 _) (by decide) (by decide) (show (xt_sA (xt_sN S 49 9 (nI (b + 1 + 4 + 3))) 66 g).2.1 66 2 = nI (lf + w - 1) from by rw [xt_sA_s]; exact (hg 2 (by decide)).trans e2) dX6_item_149 ?_
                    refine xt_aload_n C dX6_item_150 rfl ?_
                    refine xt_get (f := 28) C xt_u6 rfl (by decide) (xt_cl49 _ _) (by decide) lkX6_67 rfl dX6_item_151 ?_
                    refine xt_iconst (v := nI 3) C dX6_item_154 rfl ?_
                    refine xt_ialdN C (by decide) (xt_cl66 _) (by decide) (by decide) (show (xt_sA (xt_sN S 49 9 (nI (b + 1 + 4 + 3))) 66 g).2.1 66 3 = nI (tp + h - 1) from by rw [xt_sA_s]; exact (hg 3 (by decide)).trans e3) dX6_item_155 ?_
                    refine xt_iload_n C dX6_item_156 rfl ?_
                    refine xt_cVp C mv_X6_fills lkX6_161 (ct_mfills (a := 53) (S := (xt_sA (xt_sN S 49 9 (nI (b + 1 + 4 + 3))) 66 g)) (by decide) (xt_cl53 _) (by decide) (by decide) b2 (by rw [xt_sA_n (by decide)]; exact ht0) (f := fun j => S.2.1 53 (5 + j)) (fun j hj => by rw [xt_sA_n (by decide)]; rfl) hw (by omega) hw0 hh0) rfl (by decide) (xt_cl49 _ _) rfl (by decide) rfl (Nat.le_of_ble_eq_true rfl) dX6_item_157 (fun S9 hq9 => ?_)
                    obtain ⟨W, rfl, hWf⟩ := hq9
                    rw [xt_sA_n (by decide)] at hWf
                    refine xt_if_ge (tgt := 165) C dX6_item_160 (by decide) (fun c160 => ?_) (fun c160 => ?_)
                    · refine xt_iload_n C dX6_item_165 rfl ?_
                      exact xt_iret C dX6_item_166 ⟨by decide, by decide⟩ ⟨rfl, g, W, rfl, hWf⟩
                    · exact absurd (xt_paint_n (by omega) (by omega)) c160
              · exact absurd (show 0 ≤ xt_hx (xt_sg (S.2.1 54) n (b + 1 + 4 + 2)) from by rw [em2]; exact nI_pos' (by omega)) c92
            · exact absurd (show 0 ≤ xt_hx (xt_sg (S.2.1 54) n (b + 1 + 4 + 1)) from by rw [em1]; exact nI_pos' (by omega)) c77
          · exact absurd c66 (by omega)
      · exact absurd c45 (by decide)
    · exact absurd c37 (by omega)
  · exact absurd rfl c8
set_option maxRecDepth 20000 in
set_option maxHeartbeats 2000000 in
theorem ct_item_w109 {n b : Nat} (hn : S.1 49 8 = nI n) (h60 : n ≤ 60) (ha9 : S.1 49 9 = nI b) (hb9 : b < 900) (hx : (xt_sg (S.2.1 54) n b) = nI 109) {c r sd lv bo : Nat} (hM : xt_Mp S c r sd lv bo) (h4 : ∀ k, k < 4 → xt_pf9 k (xt_sg (S.2.1 54) n (b + 1 + k))) {x0 x1 x2 x3 : Int32} (e0 : xt_sg (S.2.1 54) n (b + 1) - nI 97 = x0) (e1 : xt_sg (S.2.1 54) n (b + 2) - nI 65 = x1) (e2 : xt_sg (S.2.1 54) n (b + 3) - nI 97 = x2) (e3 : xt_sg (S.2.1 54) n (b + 4) - nI 65 = x3) (hW : ¬ xt_wc c r x0 x1 x2 x3 = 0) : xt_Ct E l yX6_item cX6_item 5 (some Jvm.ClassFile.FieldType.int) 3 64 0 0 [.ref (E.1 49)] S (xt_Ep (some (.int (xt_wc c r x0 x1 x2 x3))) (fun S9 => ∃ g, S9 = (xt_sA (xt_sN S 49 9 (nI (b + 1 + 4))) 66 g))) := by
  refine xt_body (by decide +kernel) (xt_all rfl) (Nat.le_of_ble_eq_true rfl) (fun cx C hl9 => ?_)
  show xt_X E cx _ 0 0 0 [some (.ref (E.1 49)), none, none, none, none] [] S
  have hM9 := hM
  obtain ⟨hc, hr, hs, hv, hb, b1, b2, b3, b4, b5, b6, b7⟩ := hM
  have hnU : ∀ (q : Int32) (g : Nat → Int32), (xt_sA (xt_sN S 49 9 q) 66 g).1 49 8 = nI n := fun q g => by
    show (xt_sN S 49 9 q).1 49 8 = nI n
    rw [xt_sN_o (by omega)]
    exact hn
  have hbU : ∀ (q : Int32) (g : Nat → Int32), (xt_sA (xt_sN S 49 9 q) 66 g).1 49 9 = q := fun q g => by
    show (xt_sN S 49 9 q).1 49 9 = q
    exact xt_s2_v
  have hn1 : (xt_sN S 49 9 (nI (b + 1))).1 49 8 = nI n := (xt_sN_o (by omega)).trans hn
  refine xt_aload_n C dX6_item_0 rfl ?_
  refine xt_cV C mv_X6_here lkX6_226 (ct_here hn h60 ha9 (by omega)) rfl (by decide) (xt_cl49 _ _) rfl (by decide) rfl (Nat.le_of_ble_eq_true rfl) dX6_item_1 ?_
  rw [hx]
  refine xt_istore_n (lo' := [_, _, _, _, _]) C dX6_item_4 (Nat.le_of_ble_eq_true rfl) rfl rfl ?_
  refine xt_iload_n C dX6_item_5 rfl ?_
  refine xt_bipush (v := nI 114) C dX6_item_6 (by decide) ?_
  refine xt_icmp_eqN (tgt := 23) C dX6_item_8 (by decide) (by omega) (by omega) (fun c8 => ?_) (fun c8 => ?_)
  · exact absurd c8 (by decide)
  · refine xt_iload_n C dX6_item_11 rfl ?_
    refine xt_bipush (v := nI 109) C dX6_item_12 (by decide) ?_
    refine xt_icmp_eqN (tgt := 23) C dX6_item_14 (by decide) (by omega) (by omega) (fun c14 => ?_) (fun c14 => ?_)
    · refine xt_aload_n C dX6_item_23 rfl ?_
      refine xt_dup C dX6_item_24 rfl ?_
      refine xt_get (f := 9) C xt_u6 rfl (by decide) (xt_cl49 _ _) (by decide) lkX6_223 (xt_vI (by exact ha9)) dX6_item_25 ?_
      refine xt_iconst (v := nI 1) C dX6_item_28 rfl ?_
      refine xt_iaddN C dX6_item_29 ?_
      refine xt_put (f := 9) C xt_u6 rfl (by decide) (xt_cl49 _ _) (by decide) tyX6 tyX6_ok nmX6 lkX6_223 rfl (tyX6_ok 9 (by decide)) rfl rfl (Nat.le_of_ble_eq_true rfl) rfl dX6_item_30 ?_
      refine xt_aload_n C dX6_item_33 rfl ?_
      refine xt_cVp C mv_X6_places lkX6_229 (ct_places1 (S := (xt_sN S 49 9 (nI (b + 1)))) (b := b + 1) hn1 h60 xt_s2_v (by omega) h4) rfl (by decide) (xt_cl49 _ _) rfl (by decide) rfl (Nat.le_of_ble_eq_true rfl) dX6_item_34 (fun S9 hq9 => ?_)
      obtain ⟨g, rfl, hg⟩ := hq9
      rw [xt_s2_s]
      refine xt_if_neN (tgt := 42) C dX6_item_37 (by decide) (by omega) (fun c37 => ?_) (fun c37 => ?_)
      · refine xt_iload_n C dX6_item_42 rfl ?_
        refine xt_bipush (v := nI 109) C dX6_item_43 (by decide) ?_
        refine xt_icmp_neN (tgt := 52) C dX6_item_45 (by decide) (by omega) (by omega) (fun c45 => ?_) (fun c45 => ?_)
        · exact absurd rfl c45
        · refine xt_iconst (v := nI 1) C dX6_item_48 rfl ?_
          refine xt_goto (tgt := 53) C dX6_item_49 (by decide) ?_
          refine xt_istore_n (lo' := [_, _, _, _, _]) C dX6_item_53 (Nat.le_of_ble_eq_true rfl) rfl rfl ?_
          refine xt_iload_n C dX6_item_54 rfl ?_
          refine xt_bipush (v := nI 114) C dX6_item_55 (by decide) ?_
          refine xt_icmp_neN (tgt := 105) C dX6_item_57 (by decide) (by omega) (by omega) (fun c57 => ?_) (fun c57 => ?_)
          · refine xt_aload_n C dX6_item_105 rfl ?_
            refine xt_cV C mv_X6_whyCorner lkX6_239 (ct_whyCorner (S := (xt_sA (xt_sN S 49 9 (nI (b + 1 + 4))) 66 g)) (by unfold xt_Mp; rw [xt_sA_n (by decide)]; exact hM9) (show (xt_sA (xt_sN S 49 9 (nI (b + 1 + 4))) 66 g).2.1 66 0 = x0 from by rw [xt_sA_s]; exact (hg 0 (by decide)).trans e0) (show (xt_sA (xt_sN S 49 9 (nI (b + 1 + 4))) 66 g).2.1 66 1 = x1 from by rw [xt_sA_s]; exact (hg 1 (by decide)).trans e1) (show (xt_sA (xt_sN S 49 9 (nI (b + 1 + 4))) 66 g).2.1 66 2 = x2 from by rw [xt_sA_s]; exact (hg 2 (by decide)).trans e2) (show (xt_sA (xt_sN S 49 9 (nI (b + 1 + 4))) 66 g).2.1 66 3 = x3 from by rw [xt_sA_s]; exact (hg 3 (by decide)).trans e3)) rfl (by decide) (xt_cl49 _ _) rfl (by decide) rfl (Nat.le_of_ble_eq_true rfl) dX6_item_106 ?_
            refine xt_istore_n (lo' := [_, _, _, _, _]) C dX6_item_109 (Nat.le_of_ble_eq_true rfl) rfl rfl ?_
            refine xt_iload_n C dX6_item_110 rfl ?_
            refine xt_if_ne (tgt := 165) C dX6_item_111 (by decide) (fun c111 => ?_) (fun c111 => ?_)
            · refine xt_iload_n C dX6_item_165 rfl ?_
              exact xt_iret C dX6_item_166 ⟨by decide, by decide⟩ ⟨rfl, g, rfl⟩
            · exact absurd c111 hW
          · exact absurd c57 (by decide)
      · exact absurd c37 (by omega)
    · exact absurd rfl c14
set_option maxRecDepth 20000 in
set_option maxHeartbeats 2000000 in
theorem ct_item_o109 {n b : Nat} (hn : S.1 49 8 = nI n) (h60 : n ≤ 60) (ha9 : S.1 49 9 = nI b) (hb9 : b < 900) (hx : (xt_sg (S.2.1 54) n b) = nI 109) {c r sd lv bo : Nat} (hM : xt_Mp S c r sd lv bo) (h4 : ∀ k, k < 4 → xt_pf9 k (xt_sg (S.2.1 54) n (b + 1 + k))) {lf tp w h : Nat} (hw : lf + w ≤ c) (hh : tp + h ≤ r) (hw0 : 0 < w) (hh0 : 0 < h) (ht0 : S.2.1 53 0 = nI c) (e0 : xt_sg (S.2.1 54) n (b + 1) - nI 97 = nI lf) (e1 : xt_sg (S.2.1 54) n (b + 2) - nI 65 = nI tp) (e2 : xt_sg (S.2.1 54) n (b + 3) - nI 97 = nI (lf + w - 1)) (e3 : xt_sg (S.2.1 54) n (b + 4) - nI 65 = nI (tp + h - 1)) : xt_Ct E l yX6_item cX6_item 5 (some Jvm.ClassFile.FieldType.int) 3 64 0 0 [.ref (E.1 49)] S (xt_Ep (some (.int (nI 0))) (fun S9 => ∃ g W, S9 = xt_sA (xt_sA (xt_sN S 49 9 (nI (b + 1 + 4))) 66 g) 53 W ∧ xt_fl9 261 W (xt_paint c lf tp w h (nI 1) (fun j => S.2.1 53 (261 + j))).1 (S.2.1 53))) := by
  refine xt_body (by decide +kernel) (xt_all rfl) (Nat.le_of_ble_eq_true rfl) (fun cx C hl9 => ?_)
  show xt_X E cx _ 0 0 0 [some (.ref (E.1 49)), none, none, none, none] [] S
  have hM9 := hM
  obtain ⟨hc, hr, hs, hv, hb, b1, b2, b3, b4, b5, b6, b7⟩ := hM
  have hnU : ∀ (q : Int32) (g : Nat → Int32), (xt_sA (xt_sN S 49 9 q) 66 g).1 49 8 = nI n := fun q g => by
    show (xt_sN S 49 9 q).1 49 8 = nI n
    rw [xt_sN_o (by omega)]
    exact hn
  have hbU : ∀ (q : Int32) (g : Nat → Int32), (xt_sA (xt_sN S 49 9 q) 66 g).1 49 9 = q := fun q g => by
    show (xt_sN S 49 9 q).1 49 9 = q
    exact xt_s2_v
  have hn1 : (xt_sN S 49 9 (nI (b + 1))).1 49 8 = nI n := (xt_sN_o (by omega)).trans hn
  refine xt_aload_n C dX6_item_0 rfl ?_
  refine xt_cV C mv_X6_here lkX6_226 (ct_here hn h60 ha9 (by omega)) rfl (by decide) (xt_cl49 _ _) rfl (by decide) rfl (Nat.le_of_ble_eq_true rfl) dX6_item_1 ?_
  rw [hx]
  refine xt_istore_n (lo' := [_, _, _, _, _]) C dX6_item_4 (Nat.le_of_ble_eq_true rfl) rfl rfl ?_
  refine xt_iload_n C dX6_item_5 rfl ?_
  refine xt_bipush (v := nI 114) C dX6_item_6 (by decide) ?_
  refine xt_icmp_eqN (tgt := 23) C dX6_item_8 (by decide) (by omega) (by omega) (fun c8 => ?_) (fun c8 => ?_)
  · exact absurd c8 (by decide)
  · refine xt_iload_n C dX6_item_11 rfl ?_
    refine xt_bipush (v := nI 109) C dX6_item_12 (by decide) ?_
    refine xt_icmp_eqN (tgt := 23) C dX6_item_14 (by decide) (by omega) (by omega) (fun c14 => ?_) (fun c14 => ?_)
    · refine xt_aload_n C dX6_item_23 rfl ?_
      refine xt_dup C dX6_item_24 rfl ?_
      refine xt_get (f := 9) C xt_u6 rfl (by decide) (xt_cl49 _ _) (by decide) lkX6_223 (xt_vI (by exact ha9)) dX6_item_25 ?_
      refine xt_iconst (v := nI 1) C dX6_item_28 rfl ?_
      refine xt_iaddN C dX6_item_29 ?_
      refine xt_put (f := 9) C xt_u6 rfl (by decide) (xt_cl49 _ _) (by decide) tyX6 tyX6_ok nmX6 lkX6_223 rfl (tyX6_ok 9 (by decide)) rfl rfl (Nat.le_of_ble_eq_true rfl) rfl dX6_item_30 ?_
      refine xt_aload_n C dX6_item_33 rfl ?_
      refine xt_cVp C mv_X6_places lkX6_229 (ct_places1 (S := (xt_sN S 49 9 (nI (b + 1)))) (b := b + 1) hn1 h60 xt_s2_v (by omega) h4) rfl (by decide) (xt_cl49 _ _) rfl (by decide) rfl (Nat.le_of_ble_eq_true rfl) dX6_item_34 (fun S9 hq9 => ?_)
      obtain ⟨g, rfl, hg⟩ := hq9
      rw [xt_s2_s]
      refine xt_if_neN (tgt := 42) C dX6_item_37 (by decide) (by omega) (fun c37 => ?_) (fun c37 => ?_)
      · refine xt_iload_n C dX6_item_42 rfl ?_
        refine xt_bipush (v := nI 109) C dX6_item_43 (by decide) ?_
        refine xt_icmp_neN (tgt := 52) C dX6_item_45 (by decide) (by omega) (by omega) (fun c45 => ?_) (fun c45 => ?_)
        · exact absurd rfl c45
        · refine xt_iconst (v := nI 1) C dX6_item_48 rfl ?_
          refine xt_goto (tgt := 53) C dX6_item_49 (by decide) ?_
          refine xt_istore_n (lo' := [_, _, _, _, _]) C dX6_item_53 (Nat.le_of_ble_eq_true rfl) rfl rfl ?_
          refine xt_iload_n C dX6_item_54 rfl ?_
          refine xt_bipush (v := nI 114) C dX6_item_55 (by decide) ?_
          refine xt_icmp_neN (tgt := 105) C dX6_item_57 (by decide) (by omega) (by omega) (fun c57 => ?_) (fun c57 => ?_)
          · refine xt_aload_n C dX6_item_105 rfl ?_
            refine xt_cV C mv_X6_whyCorner lkX6_239 (ct_whyCorner (S := (xt_sA (xt_sN S 49 9 (nI (b + 1 + 4))) 66 g)) (by unfold xt_Mp; rw [xt_sA_n (by decide)]; exact hM9) (show (xt_sA (xt_sN S 49 9 (nI (b + 1 + 4))) 66 g).2.1 66 0 = nI lf from by rw [xt_sA_s]; exact (hg 0 (by decide)).trans e0) (show (xt_sA (xt_sN S 49 9 (nI (b + 1 + 4))) 66 g).2.1 66 1 = nI tp from by rw [xt_sA_s]; exact (hg 1 (by decide)).trans e1) (show (xt_sA (xt_sN S 49 9 (nI (b + 1 + 4))) 66 g).2.1 66 2 = nI (lf + w - 1) from by rw [xt_sA_s]; exact (hg 2 (by decide)).trans e2) (show (xt_sA (xt_sN S 49 9 (nI (b + 1 + 4))) 66 g).2.1 66 3 = nI (tp + h - 1) from by rw [xt_sA_s]; exact (hg 3 (by decide)).trans e3)) rfl (by decide) (xt_cl49 _ _) rfl (by decide) rfl (Nat.le_of_ble_eq_true rfl) dX6_item_106 ?_
            rw [xt_wc0 b2 b4 hw hh hw0 hh0]
            refine xt_istore_n (lo' := [_, _, _, _, _]) C dX6_item_109 (Nat.le_of_ble_eq_true rfl) rfl rfl ?_
            refine xt_iload_n C dX6_item_110 rfl ?_
            refine xt_if_ne (tgt := 165) C dX6_item_111 (by decide) (fun c111 => ?_) (fun c111 => ?_)
            · exact absurd rfl c111
            · refine xt_aload_n C dX6_item_114 rfl ?_
              refine xt_aload_n C dX6_item_115 rfl ?_
              refine xt_get (f := 6) C xt_u6 rfl (by decide) (xt_cl49 _ _) (by decide) lkX6_19 rfl dX6_item_116 ?_
              refine xt_iload_n C dX6_item_119 rfl ?_
              refine xt_bipush (v := nI 114) C dX6_item_120 (by decide) ?_
              refine xt_icmp_neN (tgt := 129) C dX6_item_122 (by decide) (by omega) (by omega) (fun c122 => ?_) (fun c122 => ?_)
              · refine xt_sipush (v := nI 261) C dX6_item_129 (by decide) ?_
                refine xt_aload_n C dX6_item_132 rfl ?_
                refine xt_get (f := 28) C xt_u6 rfl (by decide) (xt_cl49 _ _) (by decide) lkX6_67 rfl dX6_item_133 ?_
                refine xt_iconst (v := nI 0) C dX6_item_136 rfl ?_
                refine xt_ialdN C (by decide) (xt_cl66 _) (by decide) (by decide) (show (xt_sA (xt_sN S 49 9 (nI (b + 1 + 4))) 66 g).2.1 66 0 = nI lf from by rw [xt_sA_s]; exact (hg 0 (by decide)).trans e0) dX6_item_137 ?_
                refine xt_aload_n C dX6_item_138 rfl ?_
                refine xt_get (f := 28) C xt_u6 rfl (by decide) (xt_cl49 _ _) (by decide) lkX6_67 rfl dX6_item_139 ?_
                refine xt_iconst (v := nI 1) C dX6_item_142 rfl ?_
                refine xt_ialdN C (by decide) (xt_cl66 _) (by decide) (by decide) (show (xt_sA (xt_sN S 49 9 (nI (b + 1 + 4))) 66 g).2.1 66 1 = nI tp from by rw [xt_sA_s]; exact (hg 1 (by decide)).trans e1) dX6_item_143 ?_
                refine xt_aload_n C dX6_item_144 rfl ?_
                refine xt_get (f := 28) C xt_u6 rfl (by decide) (xt_cl49 _ _) (by decide) lkX6_67 rfl dX6_item_145 ?_
                refine xt_iconst (v := nI 2) C dX6_item_148 rfl ?_
                refine xt_ialdN C (by decide) (xt_cl66 _) (by decide) (by decide) (show (xt_sA (xt_sN S 49 9 (nI (b + 1 + 4))) 66 g).2.1 66 2 = nI (lf + w - 1) from by rw [xt_sA_s]; exact (hg 2 (by decide)).trans e2) dX6_item_149 ?_
                refine xt_aload_n C dX6_item_150 rfl ?_
                refine xt_get (f := 28) C xt_u6 rfl (by decide) (xt_cl49 _ _) (by decide) lkX6_67 rfl dX6_item_151 ?_
                refine xt_iconst (v := nI 3) C dX6_item_154 rfl ?_
                refine xt_ialdN C (by decide) (xt_cl66 _) (by decide) (by decide) (show (xt_sA (xt_sN S 49 9 (nI (b + 1 + 4))) 66 g).2.1 66 3 = nI (tp + h - 1) from by rw [xt_sA_s]; exact (hg 3 (by decide)).trans e3) dX6_item_155 ?_
                refine xt_iload_n C dX6_item_156 rfl ?_
                refine xt_cVp C mv_X6_fills lkX6_161 (ct_mfills (a := 53) (S := (xt_sA (xt_sN S 49 9 (nI (b + 1 + 4))) 66 g)) (by decide) (xt_cl53 _) (by decide) (by decide) b2 (by rw [xt_sA_n (by decide)]; exact ht0) (f := fun j => S.2.1 53 (261 + j)) (fun j hj => by rw [xt_sA_n (by decide)]; rfl) hw (by omega) hw0 hh0) rfl (by decide) (xt_cl49 _ _) rfl (by decide) rfl (Nat.le_of_ble_eq_true rfl) dX6_item_157 (fun S9 hq9 => ?_)
                obtain ⟨W, rfl, hWf⟩ := hq9
                rw [xt_sA_n (by decide)] at hWf
                refine xt_if_ge (tgt := 165) C dX6_item_160 (by decide) (fun c160 => ?_) (fun c160 => ?_)
                · refine xt_iload_n C dX6_item_165 rfl ?_
                  exact xt_iret C dX6_item_166 ⟨by decide, by decide⟩ ⟨rfl, g, W, rfl, hWf⟩
                · exact absurd (xt_paint_n (by omega) (by omega)) c160
              · exact absurd c122 (by decide)
          · exact absurd c57 (by decide)
      · exact absurd c37 (by omega)
    · exact absurd rfl c14
set_option maxRecDepth 20000 in
set_option maxHeartbeats 2000000 in
theorem ct_item_w117 {n b : Nat} (hn : S.1 49 8 = nI n) (h60 : n ≤ 60) (ha9 : S.1 49 9 = nI b) (hb9 : b < 900) (hx : (xt_sg (S.2.1 54) n b) = nI 117) {c r sd lv bo : Nat} (hM : xt_Mp S c r sd lv bo) (h4 : ∀ k, k < 4 → xt_pf9 k (xt_sg (S.2.1 54) n (b + 1 + k))) {x0 x1 x2 x3 : Int32} (e0 : xt_sg (S.2.1 54) n (b + 1) - nI 97 = x0) (e1 : xt_sg (S.2.1 54) n (b + 2) - nI 65 = x1) (e2 : xt_sg (S.2.1 54) n (b + 3) - nI 97 = x2) (e3 : xt_sg (S.2.1 54) n (b + 4) - nI 65 = x3) (hW : ¬ xt_wc c r x0 x1 x2 x3 = 0) : xt_Ct E l yX6_item cX6_item 5 (some Jvm.ClassFile.FieldType.int) 3 64 0 0 [.ref (E.1 49)] S (xt_Ep (some (.int (xt_wc c r x0 x1 x2 x3))) (fun S9 => ∃ g, S9 = (xt_sA (xt_sN S 49 9 (nI (b + 1 + 4))) 66 g))) := by
  refine xt_body (by decide +kernel) (xt_all rfl) (Nat.le_of_ble_eq_true rfl) (fun cx C hl9 => ?_)
  show xt_X E cx _ 0 0 0 [some (.ref (E.1 49)), none, none, none, none] [] S
  have hM9 := hM
  obtain ⟨hc, hr, hs, hv, hb, b1, b2, b3, b4, b5, b6, b7⟩ := hM
  have hnU : ∀ (q : Int32) (g : Nat → Int32), (xt_sA (xt_sN S 49 9 q) 66 g).1 49 8 = nI n := fun q g => by
    show (xt_sN S 49 9 q).1 49 8 = nI n
    rw [xt_sN_o (by omega)]
    exact hn
  have hbU : ∀ (q : Int32) (g : Nat → Int32), (xt_sA (xt_sN S 49 9 q) 66 g).1 49 9 = q := fun q g => by
    show (xt_sN S 49 9 q).1 49 9 = q
    exact xt_s2_v
  have hn1 : (xt_sN S 49 9 (nI (b + 1))).1 49 8 = nI n := (xt_sN_o (by omega)).trans hn
  refine xt_aload_n C dX6_item_0 rfl ?_
  refine xt_cV C mv_X6_here lkX6_226 (ct_here hn h60 ha9 (by omega)) rfl (by decide) (xt_cl49 _ _) rfl (by decide) rfl (Nat.le_of_ble_eq_true rfl) dX6_item_1 ?_
  rw [hx]
  refine xt_istore_n (lo' := [_, _, _, _, _]) C dX6_item_4 (Nat.le_of_ble_eq_true rfl) rfl rfl ?_
  refine xt_iload_n C dX6_item_5 rfl ?_
  refine xt_bipush (v := nI 114) C dX6_item_6 (by decide) ?_
  refine xt_icmp_eqN (tgt := 23) C dX6_item_8 (by decide) (by omega) (by omega) (fun c8 => ?_) (fun c8 => ?_)
  · exact absurd c8 (by decide)
  · refine xt_iload_n C dX6_item_11 rfl ?_
    refine xt_bipush (v := nI 109) C dX6_item_12 (by decide) ?_
    refine xt_icmp_eqN (tgt := 23) C dX6_item_14 (by decide) (by omega) (by omega) (fun c14 => ?_) (fun c14 => ?_)
    · exact absurd c14 (by decide)
    · refine xt_iload_n C dX6_item_17 rfl ?_
      refine xt_bipush (v := nI 117) C dX6_item_18 (by decide) ?_
      refine xt_icmp_neN (tgt := 167) C dX6_item_20 (by decide) (by omega) (by omega) (fun c20 => ?_) (fun c20 => ?_)
      · exact absurd rfl c20
      · refine xt_aload_n C dX6_item_23 rfl ?_
        refine xt_dup C dX6_item_24 rfl ?_
        refine xt_get (f := 9) C xt_u6 rfl (by decide) (xt_cl49 _ _) (by decide) lkX6_223 (xt_vI (by exact ha9)) dX6_item_25 ?_
        refine xt_iconst (v := nI 1) C dX6_item_28 rfl ?_
        refine xt_iaddN C dX6_item_29 ?_
        refine xt_put (f := 9) C xt_u6 rfl (by decide) (xt_cl49 _ _) (by decide) tyX6 tyX6_ok nmX6 lkX6_223 rfl (tyX6_ok 9 (by decide)) rfl rfl (Nat.le_of_ble_eq_true rfl) rfl dX6_item_30 ?_
        refine xt_aload_n C dX6_item_33 rfl ?_
        refine xt_cVp C mv_X6_places lkX6_229 (ct_places1 (S := (xt_sN S 49 9 (nI (b + 1)))) (b := b + 1) hn1 h60 xt_s2_v (by omega) h4) rfl (by decide) (xt_cl49 _ _) rfl (by decide) rfl (Nat.le_of_ble_eq_true rfl) dX6_item_34 (fun S9 hq9 => ?_)
        obtain ⟨g, rfl, hg⟩ := hq9
        rw [xt_s2_s]
        refine xt_if_neN (tgt := 42) C dX6_item_37 (by decide) (by omega) (fun c37 => ?_) (fun c37 => ?_)
        · refine xt_iload_n C dX6_item_42 rfl ?_
          refine xt_bipush (v := nI 109) C dX6_item_43 (by decide) ?_
          refine xt_icmp_neN (tgt := 52) C dX6_item_45 (by decide) (by omega) (by omega) (fun c45 => ?_) (fun c45 => ?_)
          · refine xt_iconst (v := nI 0) C dX6_item_52 rfl ?_
            refine xt_istore_n (lo' := [_, _, _, _, _]) C dX6_item_53 (Nat.le_of_ble_eq_true rfl) rfl rfl ?_
            refine xt_iload_n C dX6_item_54 rfl ?_
            refine xt_bipush (v := nI 114) C dX6_item_55 (by decide) ?_
            refine xt_icmp_neN (tgt := 105) C dX6_item_57 (by decide) (by omega) (by omega) (fun c57 => ?_) (fun c57 => ?_)
            · refine xt_aload_n C dX6_item_105 rfl ?_
              refine xt_cV C mv_X6_whyCorner lkX6_239 (ct_whyCorner (S := (xt_sA (xt_sN S 49 9 (nI (b + 1 + 4))) 66 g)) (by unfold xt_Mp; rw [xt_sA_n (by decide)]; exact hM9) (show (xt_sA (xt_sN S 49 9 (nI (b + 1 + 4))) 66 g).2.1 66 0 = x0 from by rw [xt_sA_s]; exact (hg 0 (by decide)).trans e0) (show (xt_sA (xt_sN S 49 9 (nI (b + 1 + 4))) 66 g).2.1 66 1 = x1 from by rw [xt_sA_s]; exact (hg 1 (by decide)).trans e1) (show (xt_sA (xt_sN S 49 9 (nI (b + 1 + 4))) 66 g).2.1 66 2 = x2 from by rw [xt_sA_s]; exact (hg 2 (by decide)).trans e2) (show (xt_sA (xt_sN S 49 9 (nI (b + 1 + 4))) 66 g).2.1 66 3 = x3 from by rw [xt_sA_s]; exact (hg 3 (by decide)).trans e3)) rfl (by decide) (xt_cl49 _ _) rfl (by decide) rfl (Nat.le_of_ble_eq_true rfl) dX6_item_106 ?_
              refine xt_istore_n (lo' := [_, _, _, _, _]) C dX6_item_109 (Nat.le_of_ble_eq_true rfl) rfl rfl ?_
              refine xt_iload_n C dX6_item_110 rfl ?_
              refine xt_if_ne (tgt := 165) C dX6_item_111 (by decide) (fun c111 => ?_) (fun c111 => ?_)
              · refine xt_iload_n C dX6_item_165 rfl ?_
                exact xt_iret C dX6_item_166 ⟨by decide, by decide⟩ ⟨rfl, g, rfl⟩
              · exact absurd c111 hW
            · exact absurd c57 (by decide)
          · exact absurd c45 (by decide)
        · exact absurd c37 (by omega)
set_option maxRecDepth 20000 in
set_option maxHeartbeats 2000000 in
theorem ct_item_o117 {n b : Nat} (hn : S.1 49 8 = nI n) (h60 : n ≤ 60) (ha9 : S.1 49 9 = nI b) (hb9 : b < 900) (hx : (xt_sg (S.2.1 54) n b) = nI 117) {c r sd lv bo : Nat} (hM : xt_Mp S c r sd lv bo) (h4 : ∀ k, k < 4 → xt_pf9 k (xt_sg (S.2.1 54) n (b + 1 + k))) {lf tp w h : Nat} (hw : lf + w ≤ c) (hh : tp + h ≤ r) (hw0 : 0 < w) (hh0 : 0 < h) (ht0 : S.2.1 53 0 = nI c) (e0 : xt_sg (S.2.1 54) n (b + 1) - nI 97 = nI lf) (e1 : xt_sg (S.2.1 54) n (b + 2) - nI 65 = nI tp) (e2 : xt_sg (S.2.1 54) n (b + 3) - nI 97 = nI (lf + w - 1)) (e3 : xt_sg (S.2.1 54) n (b + 4) - nI 65 = nI (tp + h - 1)) : xt_Ct E l yX6_item cX6_item 5 (some Jvm.ClassFile.FieldType.int) 3 64 0 0 [.ref (E.1 49)] S (xt_Ep (some (.int (nI 0))) (fun S9 => ∃ g W, S9 = xt_sA (xt_sA (xt_sN S 49 9 (nI (b + 1 + 4))) 66 g) 53 W ∧ xt_fl9 261 W (xt_paint c lf tp w h (nI 0) (fun j => S.2.1 53 (261 + j))).1 (S.2.1 53))) := by
  refine xt_body (by decide +kernel) (xt_all rfl) (Nat.le_of_ble_eq_true rfl) (fun cx C hl9 => ?_)
  show xt_X E cx _ 0 0 0 [some (.ref (E.1 49)), none, none, none, none] [] S
  have hM9 := hM
  obtain ⟨hc, hr, hs, hv, hb, b1, b2, b3, b4, b5, b6, b7⟩ := hM
  have hnU : ∀ (q : Int32) (g : Nat → Int32), (xt_sA (xt_sN S 49 9 q) 66 g).1 49 8 = nI n := fun q g => by
    show (xt_sN S 49 9 q).1 49 8 = nI n
    rw [xt_sN_o (by omega)]
    exact hn
  have hbU : ∀ (q : Int32) (g : Nat → Int32), (xt_sA (xt_sN S 49 9 q) 66 g).1 49 9 = q := fun q g => by
    show (xt_sN S 49 9 q).1 49 9 = q
    exact xt_s2_v
  have hn1 : (xt_sN S 49 9 (nI (b + 1))).1 49 8 = nI n := (xt_sN_o (by omega)).trans hn
  refine xt_aload_n C dX6_item_0 rfl ?_
  refine xt_cV C mv_X6_here lkX6_226 (ct_here hn h60 ha9 (by omega)) rfl (by decide) (xt_cl49 _ _) rfl (by decide) rfl (Nat.le_of_ble_eq_true rfl) dX6_item_1 ?_
  rw [hx]
  refine xt_istore_n (lo' := [_, _, _, _, _]) C dX6_item_4 (Nat.le_of_ble_eq_true rfl) rfl rfl ?_
  refine xt_iload_n C dX6_item_5 rfl ?_
  refine xt_bipush (v := nI 114) C dX6_item_6 (by decide) ?_
  refine xt_icmp_eqN (tgt := 23) C dX6_item_8 (by decide) (by omega) (by omega) (fun c8 => ?_) (fun c8 => ?_)
  · exact absurd c8 (by decide)
  · refine xt_iload_n C dX6_item_11 rfl ?_
    refine xt_bipush (v := nI 109) C dX6_item_12 (by decide) ?_
    refine xt_icmp_eqN (tgt := 23) C dX6_item_14 (by decide) (by omega) (by omega) (fun c14 => ?_) (fun c14 => ?_)
    · exact absurd c14 (by decide)
    · refine xt_iload_n C dX6_item_17 rfl ?_
      refine xt_bipush (v := nI 117) C dX6_item_18 (by decide) ?_
      refine xt_icmp_neN (tgt := 167) C dX6_item_20 (by decide) (by omega) (by omega) (fun c20 => ?_) (fun c20 => ?_)
      · exact absurd rfl c20
      · refine xt_aload_n C dX6_item_23 rfl ?_
        refine xt_dup C dX6_item_24 rfl ?_
        refine xt_get (f := 9) C xt_u6 rfl (by decide) (xt_cl49 _ _) (by decide) lkX6_223 (xt_vI (by exact ha9)) dX6_item_25 ?_
        refine xt_iconst (v := nI 1) C dX6_item_28 rfl ?_
        refine xt_iaddN C dX6_item_29 ?_
        refine xt_put (f := 9) C xt_u6 rfl (by decide) (xt_cl49 _ _) (by decide) tyX6 tyX6_ok nmX6 lkX6_223 rfl (tyX6_ok 9 (by decide)) rfl rfl (Nat.le_of_ble_eq_true rfl) rfl dX6_item_30 ?_
        refine xt_aload_n C dX6_item_33 rfl ?_
        refine xt_cVp C mv_X6_places lkX6_229 (ct_places1 (S := (xt_sN S 49 9 (nI (b + 1)))) (b := b + 1) hn1 h60 xt_s2_v (by omega) h4) rfl (by decide) (xt_cl49 _ _) rfl (by decide) rfl (Nat.le_of_ble_eq_true rfl) dX6_item_34 (fun S9 hq9 => ?_)
        obtain ⟨g, rfl, hg⟩ := hq9
        rw [xt_s2_s]
        refine xt_if_neN (tgt := 42) C dX6_item_37 (by decide) (by omega) (fun c37 => ?_) (fun c37 => ?_)
        · refine xt_iload_n C dX6_item_42 rfl ?_
          refine xt_bipush (v := nI 109) C dX6_item_43 (by decide) ?_
          refine xt_icmp_neN (tgt := 52) C dX6_item_45 (by decide) (by omega) (by omega) (fun c45 => ?_) (fun c45 => ?_)
          · refine xt_iconst (v := nI 0) C dX6_item_52 rfl ?_
            refine xt_istore_n (lo' := [_, _, _, _, _]) C dX6_item_53 (Nat.le_of_ble_eq_true rfl) rfl rfl ?_
            refine xt_iload_n C dX6_item_54 rfl ?_
            refine xt_bipush (v := nI 114) C dX6_item_55 (by decide) ?_
            refine xt_icmp_neN (tgt := 105) C dX6_item_57 (by decide) (by omega) (by omega) (fun c57 => ?_) (fun c57 => ?_)
            · refine xt_aload_n C dX6_item_105 rfl ?_
              refine xt_cV C mv_X6_whyCorner lkX6_239 (ct_whyCorner (S := (xt_sA (xt_sN S 49 9 (nI (b + 1 + 4))) 66 g)) (by unfold xt_Mp; rw [xt_sA_n (by decide)]; exact hM9) (show (xt_sA (xt_sN S 49 9 (nI (b + 1 + 4))) 66 g).2.1 66 0 = nI lf from by rw [xt_sA_s]; exact (hg 0 (by decide)).trans e0) (show (xt_sA (xt_sN S 49 9 (nI (b + 1 + 4))) 66 g).2.1 66 1 = nI tp from by rw [xt_sA_s]; exact (hg 1 (by decide)).trans e1) (show (xt_sA (xt_sN S 49 9 (nI (b + 1 + 4))) 66 g).2.1 66 2 = nI (lf + w - 1) from by rw [xt_sA_s]; exact (hg 2 (by decide)).trans e2) (show (xt_sA (xt_sN S 49 9 (nI (b + 1 + 4))) 66 g).2.1 66 3 = nI (tp + h - 1) from by rw [xt_sA_s]; exact (hg 3 (by decide)).trans e3)) rfl (by decide) (xt_cl49 _ _) rfl (by decide) rfl (Nat.le_of_ble_eq_true rfl) dX6_item_106 ?_
              rw [xt_wc0 b2 b4 hw hh hw0 hh0]
              refine xt_istore_n (lo' := [_, _, _, _, _]) C dX6_item_109 (Nat.le_of_ble_eq_true rfl) rfl rfl ?_
              refine xt_iload_n C dX6_item_110 rfl ?_
              refine xt_if_ne (tgt := 165) C dX6_item_111 (by decide) (fun c111 => ?_) (fun c111 => ?_)
              · exact absurd rfl c111
              · refine xt_aload_n C dX6_item_114 rfl ?_
                refine xt_aload_n C dX6_item_115 rfl ?_
                refine xt_get (f := 6) C xt_u6 rfl (by decide) (xt_cl49 _ _) (by decide) lkX6_19 rfl dX6_item_116 ?_
                refine xt_iload_n C dX6_item_119 rfl ?_
                refine xt_bipush (v := nI 114) C dX6_item_120 (by decide) ?_
                refine xt_icmp_neN (tgt := 129) C dX6_item_122 (by decide) (by omega) (by omega) (fun c122 => ?_) (fun c122 => ?_)
                · refine xt_sipush (v := nI 261) C dX6_item_129 (by decide) ?_
                  refine xt_aload_n C dX6_item_132 rfl ?_
                  refine xt_get (f := 28) C xt_u6 rfl (by decide) (xt_cl49 _ _) (by decide) lkX6_67 rfl dX6_item_133 ?_
                  refine xt_iconst (v := nI 0) C dX6_item_136 rfl ?_
                  refine xt_ialdN C (by decide) (xt_cl66 _) (by decide) (by decide) (show (xt_sA (xt_sN S 49 9 (nI (b + 1 + 4))) 66 g).2.1 66 0 = nI lf from by rw [xt_sA_s]; exact (hg 0 (by decide)).trans e0) dX6_item_137 ?_
                  refine xt_aload_n C dX6_item_138 rfl ?_
                  refine xt_get (f := 28) C xt_u6 rfl (by decide) (xt_cl49 _ _) (by decide) lkX6_67 rfl dX6_item_139 ?_
                  refine xt_iconst (v := nI 1) C dX6_item_142 rfl ?_
                  refine xt_ialdN C (by decide) (xt_cl66 _) (by decide) (by decide) (show (xt_sA (xt_sN S 49 9 (nI (b + 1 + 4))) 66 g).2.1 66 1 = nI tp from by rw [xt_sA_s]; exact (hg 1 (by decide)).trans e1) dX6_item_143 ?_
                  refine xt_aload_n C dX6_item_144 rfl ?_
                  refine xt_get (f := 28) C xt_u6 rfl (by decide) (xt_cl49 _ _) (by decide) lkX6_67 rfl dX6_item_145 ?_
                  refine xt_iconst (v := nI 2) C dX6_item_148 rfl ?_
                  refine xt_ialdN C (by decide) (xt_cl66 _) (by decide) (by decide) (show (xt_sA (xt_sN S 49 9 (nI (b + 1 + 4))) 66 g).2.1 66 2 = nI (lf + w - 1) from by rw [xt_sA_s]; exact (hg 2 (by decide)).trans e2) dX6_item_149 ?_
                  refine xt_aload_n C dX6_item_150 rfl ?_
                  refine xt_get (f := 28) C xt_u6 rfl (by decide) (xt_cl49 _ _) (by decide) lkX6_67 rfl dX6_item_151 ?_
                  refine xt_iconst (v := nI 3) C dX6_item_154 rfl ?_
                  refine xt_ialdN C (by decide) (xt_cl66 _) (by decide) (by decide) (show (xt_sA (xt_sN S 49 9 (nI (b + 1 + 4))) 66 g).2.1 66 3 = nI (tp + h - 1) from by rw [xt_sA_s]; exact (hg 3 (by decide)).trans e3) dX6_item_155 ?_
                  refine xt_iload_n C dX6_item_156 rfl ?_
                  refine xt_cVp C mv_X6_fills lkX6_161 (ct_mfills (a := 53) (S := (xt_sA (xt_sN S 49 9 (nI (b + 1 + 4))) 66 g)) (by decide) (xt_cl53 _) (by decide) (by decide) b2 (by rw [xt_sA_n (by decide)]; exact ht0) (f := fun j => S.2.1 53 (261 + j)) (fun j hj => by rw [xt_sA_n (by decide)]; rfl) hw (by omega) hw0 hh0) rfl (by decide) (xt_cl49 _ _) rfl (by decide) rfl (Nat.le_of_ble_eq_true rfl) dX6_item_157 (fun S9 hq9 => ?_)
                  obtain ⟨W, rfl, hWf⟩ := hq9
                  rw [xt_sA_n (by decide)] at hWf
                  refine xt_if_ge (tgt := 165) C dX6_item_160 (by decide) (fun c160 => ?_) (fun c160 => ?_)
                  · refine xt_iload_n C dX6_item_165 rfl ?_
                    exact xt_iret C dX6_item_166 ⟨by decide, by decide⟩ ⟨rfl, g, W, rfl, hWf⟩
                  · exact absurd (xt_paint_n (by omega) (by omega)) c160
                · exact absurd c122 (by decide)
            · exact absurd c57 (by decide)
          · exact absurd c45 (by decide)
        · exact absurd c37 (by omega)
set_option maxRecDepth 20000 in
set_option maxHeartbeats 2000000 in
theorem ct_item_d116 {n b : Nat} (hn : S.1 49 8 = nI n) (h60 : n ≤ 60) (ha9 : S.1 49 9 = nI b) (hb9 : b < 900) (hx : (xt_sg (S.2.1 54) n b) = nI 116) (hd : ¬ (nI 48 ≤ (xt_sg (S.2.1 54) n (b + 1)) ∧ (xt_sg (S.2.1 54) n (b + 1)) ≤ nI 57)) : xt_Ct E l yX6_item cX6_item 5 (some Jvm.ClassFile.FieldType.int) 3 64 0 0 [.ref (E.1 49)] S (xt_Ep (some (.int (-1))) (fun S9 => ∃ g, S9 = (xt_sA (xt_sN S 49 9 (nI (b + 1))) 66 g))) := by
  refine xt_body (by decide +kernel) (xt_all rfl) (Nat.le_of_ble_eq_true rfl) (fun cx C hl9 => ?_)
  show xt_X E cx _ 0 0 0 [some (.ref (E.1 49)), none, none, none, none] [] S
  have hnU : ∀ (q : Int32) (g : Nat → Int32), (xt_sA (xt_sN S 49 9 q) 66 g).1 49 8 = nI n := fun q g => by
    show (xt_sN S 49 9 q).1 49 8 = nI n
    rw [xt_sN_o (by omega)]
    exact hn
  have hbU : ∀ (q : Int32) (g : Nat → Int32), (xt_sA (xt_sN S 49 9 q) 66 g).1 49 9 = q := fun q g => by
    show (xt_sN S 49 9 q).1 49 9 = q
    exact xt_s2_v
  have hn1 : (xt_sN S 49 9 (nI (b + 1))).1 49 8 = nI n := (xt_sN_o (by omega)).trans hn
  refine xt_aload_n C dX6_item_0 rfl ?_
  refine xt_cV C mv_X6_here lkX6_226 (ct_here hn h60 ha9 (by omega)) rfl (by decide) (xt_cl49 _ _) rfl (by decide) rfl (Nat.le_of_ble_eq_true rfl) dX6_item_1 ?_
  rw [hx]
  refine xt_istore_n (lo' := [_, _, _, _, _]) C dX6_item_4 (Nat.le_of_ble_eq_true rfl) rfl rfl ?_
  refine xt_iload_n C dX6_item_5 rfl ?_
  refine xt_bipush (v := nI 114) C dX6_item_6 (by decide) ?_
  refine xt_icmp_eqN (tgt := 23) C dX6_item_8 (by decide) (by omega) (by omega) (fun c8 => ?_) (fun c8 => ?_)
  · exact absurd c8 (by decide)
  · refine xt_iload_n C dX6_item_11 rfl ?_
    refine xt_bipush (v := nI 109) C dX6_item_12 (by decide) ?_
    refine xt_icmp_eqN (tgt := 23) C dX6_item_14 (by decide) (by omega) (by omega) (fun c14 => ?_) (fun c14 => ?_)
    · exact absurd c14 (by decide)
    · refine xt_iload_n C dX6_item_17 rfl ?_
      refine xt_bipush (v := nI 117) C dX6_item_18 (by decide) ?_
      refine xt_icmp_neN (tgt := 167) C dX6_item_20 (by decide) (by omega) (by omega) (fun c20 => ?_) (fun c20 => ?_)
      · refine xt_iload_n C dX6_item_167 rfl ?_
        refine xt_bipush (v := nI 116) C dX6_item_168 (by decide) ?_
        refine xt_icmp_neN (tgt := 177) C dX6_item_170 (by decide) (by omega) (by omega) (fun c170 => ?_) (fun c170 => ?_)
        · exact absurd rfl c170
        · refine xt_iconst (v := nI 0) C dX6_item_173 rfl ?_
          refine xt_goto (tgt := 198) C dX6_item_174 (by decide) ?_
          refine xt_istore_n (lo' := [_, _, _, _, _]) C dX6_item_198 (Nat.le_of_ble_eq_true rfl) rfl rfl ?_
          refine xt_iload_n C dX6_item_199 rfl ?_
          refine xt_if_geN (tgt := 205) C dX6_item_200 (by decide) (by decide) ?_
          refine xt_aload_n C dX6_item_205 rfl ?_
          refine xt_dup C dX6_item_206 rfl ?_
          refine xt_get (f := 9) C xt_u6 rfl (by decide) (xt_cl49 _ _) (by decide) lkX6_223 (xt_vI (by exact ha9)) dX6_item_207 ?_
          refine xt_iconst (v := nI 1) C dX6_item_210 rfl ?_
          refine xt_iaddN C dX6_item_211 ?_
          refine xt_put (f := 9) C xt_u6 rfl (by decide) (xt_cl49 _ _) (by decide) tyX6 tyX6_ok nmX6 lkX6_223 rfl (tyX6_ok 9 (by decide)) rfl rfl (Nat.le_of_ble_eq_true rfl) rfl dX6_item_212 ?_
          refine xt_aload_n C dX6_item_215 rfl ?_
          refine xt_cV C mv_X6_here lkX6_226 (ct_here (S := (xt_sN S 49 9 (nI (b + 1)))) (b := b + 1) hn1 h60 xt_s2_v (by omega)) rfl (by decide) (xt_cl49 _ _) rfl (by decide) rfl (Nat.le_of_ble_eq_true rfl) dX6_item_216 ?_
          refine xt_bipush (v := nI 48) C dX6_item_219 (by decide) ?_
          refine xt_bipush (v := nI 57) C dX6_item_221 (by decide) ?_
          refine xt_cS C ms_X6_in lkX6_81 ct_in rfl (by decide) rfl (Nat.le_of_ble_eq_true rfl) dX6_item_223 ?_
          refine xt_if_neB (tgt := 231) C dX6_item_226 (by decide) (fun c226 => ?_) (fun c226 => ?_)
          · exact absurd c226 hd
          · refine xt_iconst (v := -1) C dX6_item_229 rfl ?_
            exact xt_iret C dX6_item_230 ⟨by decide, by decide⟩ ⟨rfl, S.2.1 66, (xt_sA_self (S := (xt_sN S 49 9 (nI (b + 1)))) (i := 66)).symm⟩
      · exact absurd c20 (by decide)
set_option maxRecDepth 20000 in
set_option maxHeartbeats 2000000 in
theorem ct_item_x116 {n b : Nat} (hn : S.1 49 8 = nI n) (h60 : n ≤ 60) (ha9 : S.1 49 9 = nI b) (hb9 : b < 900) (hx : (xt_sg (S.2.1 54) n b) = nI 116) (hd : nI 48 ≤ (xt_sg (S.2.1 54) n (b + 1)) ∧ (xt_sg (S.2.1 54) n (b + 1)) ≤ nI 57) (hs : ¬ xt_set (nI 0) ((xt_sg (S.2.1 54) n (b + 1)) - nI 48)) : xt_Ct E l yX6_item cX6_item 5 (some Jvm.ClassFile.FieldType.int) 3 64 0 0 [.ref (E.1 49)] S (xt_Ep (some (.int (nI 3))) (fun S9 => ∃ g, S9 = xt_sA (xt_sN S 49 9 (nI (b + 1 + 1))) 66 g)) := by
  refine xt_body (by decide +kernel) (xt_all rfl) (Nat.le_of_ble_eq_true rfl) (fun cx C hl9 => ?_)
  show xt_X E cx _ 0 0 0 [some (.ref (E.1 49)), none, none, none, none] [] S
  have hnU : ∀ (q : Int32) (g : Nat → Int32), (xt_sA (xt_sN S 49 9 q) 66 g).1 49 8 = nI n := fun q g => by
    show (xt_sN S 49 9 q).1 49 8 = nI n
    rw [xt_sN_o (by omega)]
    exact hn
  have hbU : ∀ (q : Int32) (g : Nat → Int32), (xt_sA (xt_sN S 49 9 q) 66 g).1 49 9 = q := fun q g => by
    show (xt_sN S 49 9 q).1 49 9 = q
    exact xt_s2_v
  have hn1 : (xt_sN S 49 9 (nI (b + 1))).1 49 8 = nI n := (xt_sN_o (by omega)).trans hn
  have hlt : b + 1 < n := xt_sg_in (by decide) hd.1
  refine xt_aload_n C dX6_item_0 rfl ?_
  refine xt_cV C mv_X6_here lkX6_226 (ct_here hn h60 ha9 (by omega)) rfl (by decide) (xt_cl49 _ _) rfl (by decide) rfl (Nat.le_of_ble_eq_true rfl) dX6_item_1 ?_
  rw [hx]
  refine xt_istore_n (lo' := [_, _, _, _, _]) C dX6_item_4 (Nat.le_of_ble_eq_true rfl) rfl rfl ?_
  refine xt_iload_n C dX6_item_5 rfl ?_
  refine xt_bipush (v := nI 114) C dX6_item_6 (by decide) ?_
  refine xt_icmp_eqN (tgt := 23) C dX6_item_8 (by decide) (by omega) (by omega) (fun c8 => ?_) (fun c8 => ?_)
  · exact absurd c8 (by decide)
  · refine xt_iload_n C dX6_item_11 rfl ?_
    refine xt_bipush (v := nI 109) C dX6_item_12 (by decide) ?_
    refine xt_icmp_eqN (tgt := 23) C dX6_item_14 (by decide) (by omega) (by omega) (fun c14 => ?_) (fun c14 => ?_)
    · exact absurd c14 (by decide)
    · refine xt_iload_n C dX6_item_17 rfl ?_
      refine xt_bipush (v := nI 117) C dX6_item_18 (by decide) ?_
      refine xt_icmp_neN (tgt := 167) C dX6_item_20 (by decide) (by omega) (by omega) (fun c20 => ?_) (fun c20 => ?_)
      · refine xt_iload_n C dX6_item_167 rfl ?_
        refine xt_bipush (v := nI 116) C dX6_item_168 (by decide) ?_
        refine xt_icmp_neN (tgt := 177) C dX6_item_170 (by decide) (by omega) (by omega) (fun c170 => ?_) (fun c170 => ?_)
        · exact absurd rfl c170
        · refine xt_iconst (v := nI 0) C dX6_item_173 rfl ?_
          refine xt_goto (tgt := 198) C dX6_item_174 (by decide) ?_
          refine xt_istore_n (lo' := [_, _, _, _, _]) C dX6_item_198 (Nat.le_of_ble_eq_true rfl) rfl rfl ?_
          refine xt_iload_n C dX6_item_199 rfl ?_
          refine xt_if_geN (tgt := 205) C dX6_item_200 (by decide) (by decide) ?_
          refine xt_aload_n C dX6_item_205 rfl ?_
          refine xt_dup C dX6_item_206 rfl ?_
          refine xt_get (f := 9) C xt_u6 rfl (by decide) (xt_cl49 _ _) (by decide) lkX6_223 (xt_vI (by exact ha9)) dX6_item_207 ?_
          refine xt_iconst (v := nI 1) C dX6_item_210 rfl ?_
          refine xt_iaddN C dX6_item_211 ?_
          refine xt_put (f := 9) C xt_u6 rfl (by decide) (xt_cl49 _ _) (by decide) tyX6 tyX6_ok nmX6 lkX6_223 rfl (tyX6_ok 9 (by decide)) rfl rfl (Nat.le_of_ble_eq_true rfl) rfl dX6_item_212 ?_
          refine xt_aload_n C dX6_item_215 rfl ?_
          refine xt_cV C mv_X6_here lkX6_226 (ct_here (S := (xt_sN S 49 9 (nI (b + 1)))) (b := b + 1) hn1 h60 xt_s2_v (by omega)) rfl (by decide) (xt_cl49 _ _) rfl (by decide) rfl (Nat.le_of_ble_eq_true rfl) dX6_item_216 ?_
          refine xt_bipush (v := nI 48) C dX6_item_219 (by decide) ?_
          refine xt_bipush (v := nI 57) C dX6_item_221 (by decide) ?_
          refine xt_cS C ms_X6_in lkX6_81 ct_in rfl (by decide) rfl (Nat.le_of_ble_eq_true rfl) dX6_item_223 ?_
          refine xt_if_neB (tgt := 231) C dX6_item_226 (by decide) (fun c226 => ?_) (fun c226 => ?_)
          · refine xt_aload_n C dX6_item_231 rfl ?_
            refine xt_get (f := 7) C xt_u6 rfl (by decide) (xt_cl49 _ _) (by decide) lkX6_22 rfl dX6_item_232 ?_
            refine xt_aload_n C dX6_item_235 rfl ?_
            refine xt_dup C dX6_item_236 rfl ?_
            refine xt_get (f := 9) C xt_u6 rfl (by decide) (xt_cl49 _ _) (by decide) lkX6_223 rfl dX6_item_237 ?_
            rw [show (xt_sN S 49 9 (nI (b + 1))).1 49 9 = nI (b + 1) from xt_s2_v]
            refine xt_dup_x1 C dX6_item_240 rfl rfl ?_
            refine xt_iconst (v := nI 1) C dX6_item_241 rfl ?_
            refine xt_iaddN C dX6_item_242 ?_
            refine xt_put (f := 9) C xt_u6 rfl (by decide) (xt_cl49 _ _) (by decide) tyX6 tyX6_ok nmX6 lkX6_223 rfl (tyX6_ok 9 (by decide)) rfl rfl (Nat.le_of_ble_eq_true rfl) rfl dX6_item_243 ?_
            refine xt_ialdN C (by decide) (xt_cl54 _) (by omega) (by decide) (show S.2.1 54 (b + 1) = (xt_sg (S.2.1 54) n (b + 1)) from (xt_sg1 hlt).symm) dX6_item_246 ?_
            rw [xt_s2_s]
            refine xt_bipush (v := nI 48) C dX6_item_247 (by decide) ?_
            refine xt_isub C dX6_item_249 ?_
            refine xt_istore_n (lo' := [_, _, _, _, _]) C dX6_item_250 (Nat.le_of_ble_eq_true rfl) rfl rfl ?_
            refine xt_iload_n C dX6_item_251 rfl ?_
            refine xt_iload_n C dX6_item_252 rfl ?_
            refine xt_cS C ms_X6_isSetting lkX6_148 (ct_misSetting (by decide)) rfl (by decide) rfl (Nat.le_of_ble_eq_true rfl) dX6_item_253 ?_
            refine xt_if_neB (tgt := 261) C dX6_item_256 (by decide) (fun c256 => ?_) (fun c256 => ?_)
            · exact absurd c256 hs
            · refine xt_iconst (v := nI 3) C dX6_item_259 rfl ?_
              exact xt_iret C dX6_item_260 ⟨by decide, by decide⟩ ⟨rfl, S.2.1 66, (xt_sA_self (S := (xt_sN S 49 9 (nI (b + 1 + 1)))) (i := 66)).symm⟩
          · exact absurd hd c226
      · exact absurd c20 (by decide)
set_option maxRecDepth 20000 in
set_option maxHeartbeats 2000000 in
theorem ct_item_s116 {n b : Nat} (hn : S.1 49 8 = nI n) (h60 : n ≤ 60) (ha9 : S.1 49 9 = nI b) (hb9 : b < 900) (hx : (xt_sg (S.2.1 54) n b) = nI 116) (hd : nI 48 ≤ (xt_sg (S.2.1 54) n (b + 1)) ∧ (xt_sg (S.2.1 54) n (b + 1)) ≤ nI 57) (hs : xt_set (nI 0) ((xt_sg (S.2.1 54) n (b + 1)) - nI 48)) : xt_Ct E l yX6_item cX6_item 5 (some Jvm.ClassFile.FieldType.int) 3 64 0 0 [.ref (E.1 49)] S (xt_Ep (some (.int (nI 0))) (fun S9 => ∃ g W, S9 = xt_sA (xt_sA (xt_sN S 49 9 (nI (b + 1 + 1))) 66 g) 53 W ∧ W = upd (S.2.1 53) 2 ((xt_sg (S.2.1 54) n (b + 1)) - nI 48))) := by
  refine xt_body (by decide +kernel) (xt_all rfl) (Nat.le_of_ble_eq_true rfl) (fun cx C hl9 => ?_)
  show xt_X E cx _ 0 0 0 [some (.ref (E.1 49)), none, none, none, none] [] S
  have hnU : ∀ (q : Int32) (g : Nat → Int32), (xt_sA (xt_sN S 49 9 q) 66 g).1 49 8 = nI n := fun q g => by
    show (xt_sN S 49 9 q).1 49 8 = nI n
    rw [xt_sN_o (by omega)]
    exact hn
  have hbU : ∀ (q : Int32) (g : Nat → Int32), (xt_sA (xt_sN S 49 9 q) 66 g).1 49 9 = q := fun q g => by
    show (xt_sN S 49 9 q).1 49 9 = q
    exact xt_s2_v
  have hn1 : (xt_sN S 49 9 (nI (b + 1))).1 49 8 = nI n := (xt_sN_o (by omega)).trans hn
  have hlt : b + 1 < n := xt_sg_in (by decide) hd.1
  refine xt_aload_n C dX6_item_0 rfl ?_
  refine xt_cV C mv_X6_here lkX6_226 (ct_here hn h60 ha9 (by omega)) rfl (by decide) (xt_cl49 _ _) rfl (by decide) rfl (Nat.le_of_ble_eq_true rfl) dX6_item_1 ?_
  rw [hx]
  refine xt_istore_n (lo' := [_, _, _, _, _]) C dX6_item_4 (Nat.le_of_ble_eq_true rfl) rfl rfl ?_
  refine xt_iload_n C dX6_item_5 rfl ?_
  refine xt_bipush (v := nI 114) C dX6_item_6 (by decide) ?_
  refine xt_icmp_eqN (tgt := 23) C dX6_item_8 (by decide) (by omega) (by omega) (fun c8 => ?_) (fun c8 => ?_)
  · exact absurd c8 (by decide)
  · refine xt_iload_n C dX6_item_11 rfl ?_
    refine xt_bipush (v := nI 109) C dX6_item_12 (by decide) ?_
    refine xt_icmp_eqN (tgt := 23) C dX6_item_14 (by decide) (by omega) (by omega) (fun c14 => ?_) (fun c14 => ?_)
    · exact absurd c14 (by decide)
    · refine xt_iload_n C dX6_item_17 rfl ?_
      refine xt_bipush (v := nI 117) C dX6_item_18 (by decide) ?_
      refine xt_icmp_neN (tgt := 167) C dX6_item_20 (by decide) (by omega) (by omega) (fun c20 => ?_) (fun c20 => ?_)
      · refine xt_iload_n C dX6_item_167 rfl ?_
        refine xt_bipush (v := nI 116) C dX6_item_168 (by decide) ?_
        refine xt_icmp_neN (tgt := 177) C dX6_item_170 (by decide) (by omega) (by omega) (fun c170 => ?_) (fun c170 => ?_)
        · exact absurd rfl c170
        · refine xt_iconst (v := nI 0) C dX6_item_173 rfl ?_
          refine xt_goto (tgt := 198) C dX6_item_174 (by decide) ?_
          refine xt_istore_n (lo' := [_, _, _, _, _]) C dX6_item_198 (Nat.le_of_ble_eq_true rfl) rfl rfl ?_
          refine xt_iload_n C dX6_item_199 rfl ?_
          refine xt_if_geN (tgt := 205) C dX6_item_200 (by decide) (by decide) ?_
          refine xt_aload_n C dX6_item_205 rfl ?_
          refine xt_dup C dX6_item_206 rfl ?_
          refine xt_get (f := 9) C xt_u6 rfl (by decide) (xt_cl49 _ _) (by decide) lkX6_223 (xt_vI (by exact ha9)) dX6_item_207 ?_
          refine xt_iconst (v := nI 1) C dX6_item_210 rfl ?_
          refine xt_iaddN C dX6_item_211 ?_
          refine xt_put (f := 9) C xt_u6 rfl (by decide) (xt_cl49 _ _) (by decide) tyX6 tyX6_ok nmX6 lkX6_223 rfl (tyX6_ok 9 (by decide)) rfl rfl (Nat.le_of_ble_eq_true rfl) rfl dX6_item_212 ?_
          refine xt_aload_n C dX6_item_215 rfl ?_
          refine xt_cV C mv_X6_here lkX6_226 (ct_here (S := (xt_sN S 49 9 (nI (b + 1)))) (b := b + 1) hn1 h60 xt_s2_v (by omega)) rfl (by decide) (xt_cl49 _ _) rfl (by decide) rfl (Nat.le_of_ble_eq_true rfl) dX6_item_216 ?_
          refine xt_bipush (v := nI 48) C dX6_item_219 (by decide) ?_
          refine xt_bipush (v := nI 57) C dX6_item_221 (by decide) ?_
          refine xt_cS C ms_X6_in lkX6_81 ct_in rfl (by decide) rfl (Nat.le_of_ble_eq_true rfl) dX6_item_223 ?_
          refine xt_if_neB (tgt := 231) C dX6_item_226 (by decide) (fun c226 => ?_) (fun c226 => ?_)
          · refine xt_aload_n C dX6_item_231 rfl ?_
            refine xt_get (f := 7) C xt_u6 rfl (by decide) (xt_cl49 _ _) (by decide) lkX6_22 rfl dX6_item_232 ?_
            refine xt_aload_n C dX6_item_235 rfl ?_
            refine xt_dup C dX6_item_236 rfl ?_
            refine xt_get (f := 9) C xt_u6 rfl (by decide) (xt_cl49 _ _) (by decide) lkX6_223 rfl dX6_item_237 ?_
            rw [show (xt_sN S 49 9 (nI (b + 1))).1 49 9 = nI (b + 1) from xt_s2_v]
            refine xt_dup_x1 C dX6_item_240 rfl rfl ?_
            refine xt_iconst (v := nI 1) C dX6_item_241 rfl ?_
            refine xt_iaddN C dX6_item_242 ?_
            refine xt_put (f := 9) C xt_u6 rfl (by decide) (xt_cl49 _ _) (by decide) tyX6 tyX6_ok nmX6 lkX6_223 rfl (tyX6_ok 9 (by decide)) rfl rfl (Nat.le_of_ble_eq_true rfl) rfl dX6_item_243 ?_
            refine xt_ialdN C (by decide) (xt_cl54 _) (by omega) (by decide) (show S.2.1 54 (b + 1) = (xt_sg (S.2.1 54) n (b + 1)) from (xt_sg1 hlt).symm) dX6_item_246 ?_
            rw [xt_s2_s]
            refine xt_bipush (v := nI 48) C dX6_item_247 (by decide) ?_
            refine xt_isub C dX6_item_249 ?_
            refine xt_istore_n (lo' := [_, _, _, _, _]) C dX6_item_250 (Nat.le_of_ble_eq_true rfl) rfl rfl ?_
            refine xt_iload_n C dX6_item_251 rfl ?_
            refine xt_iload_n C dX6_item_252 rfl ?_
            refine xt_cS C ms_X6_isSetting lkX6_148 (ct_misSetting (by decide)) rfl (by decide) rfl (Nat.le_of_ble_eq_true rfl) dX6_item_253 ?_
            refine xt_if_neB (tgt := 261) C dX6_item_256 (by decide) (fun c256 => ?_) (fun c256 => ?_)
            · refine xt_aload_n C dX6_item_261 rfl ?_
              refine xt_get (f := 6) C xt_u6 rfl (by decide) (xt_cl49 _ _) (by decide) lkX6_19 rfl dX6_item_262 ?_
              refine xt_iconst (v := nI 2) C dX6_item_265 rfl ?_
              refine xt_iload_n C dX6_item_266 rfl ?_
              refine xt_iaddN C dX6_item_267 ?_
              refine xt_iload_n C dX6_item_268 rfl ?_
              refine xt_iastN C (by decide) (xt_cl53 _) (by omega) (by decide) dX6_item_269 ?_
              refine xt_iconst (v := nI 0) C dX6_item_270 rfl ?_
              exact xt_iret C dX6_item_271 ⟨by decide, by decide⟩ ⟨rfl, S.2.1 66, _, by rw [show xt_sA (xt_sN S 49 9 (nI (b + 1 + 1))) 66 (S.2.1 66) = (xt_sN S 49 9 (nI (b + 1 + 1))) from xt_sA_self (S := (xt_sN S 49 9 (nI (b + 1 + 1)))) (i := 66)]; rfl, rfl⟩
            · exact absurd hs c256
          · exact absurd hd c226
      · exact absurd c20 (by decide)
set_option maxRecDepth 20000 in
set_option maxHeartbeats 2000000 in
theorem ct_item_d108 {n b : Nat} (hn : S.1 49 8 = nI n) (h60 : n ≤ 60) (ha9 : S.1 49 9 = nI b) (hb9 : b < 900) (hx : (xt_sg (S.2.1 54) n b) = nI 108) (hd : ¬ (nI 48 ≤ (xt_sg (S.2.1 54) n (b + 1)) ∧ (xt_sg (S.2.1 54) n (b + 1)) ≤ nI 57)) : xt_Ct E l yX6_item cX6_item 5 (some Jvm.ClassFile.FieldType.int) 3 64 0 0 [.ref (E.1 49)] S (xt_Ep (some (.int (-1))) (fun S9 => ∃ g, S9 = (xt_sA (xt_sN S 49 9 (nI (b + 1))) 66 g))) := by
  refine xt_body (by decide +kernel) (xt_all rfl) (Nat.le_of_ble_eq_true rfl) (fun cx C hl9 => ?_)
  show xt_X E cx _ 0 0 0 [some (.ref (E.1 49)), none, none, none, none] [] S
  have hnU : ∀ (q : Int32) (g : Nat → Int32), (xt_sA (xt_sN S 49 9 q) 66 g).1 49 8 = nI n := fun q g => by
    show (xt_sN S 49 9 q).1 49 8 = nI n
    rw [xt_sN_o (by omega)]
    exact hn
  have hbU : ∀ (q : Int32) (g : Nat → Int32), (xt_sA (xt_sN S 49 9 q) 66 g).1 49 9 = q := fun q g => by
    show (xt_sN S 49 9 q).1 49 9 = q
    exact xt_s2_v
  have hn1 : (xt_sN S 49 9 (nI (b + 1))).1 49 8 = nI n := (xt_sN_o (by omega)).trans hn
  refine xt_aload_n C dX6_item_0 rfl ?_
  refine xt_cV C mv_X6_here lkX6_226 (ct_here hn h60 ha9 (by omega)) rfl (by decide) (xt_cl49 _ _) rfl (by decide) rfl (Nat.le_of_ble_eq_true rfl) dX6_item_1 ?_
  rw [hx]
  refine xt_istore_n (lo' := [_, _, _, _, _]) C dX6_item_4 (Nat.le_of_ble_eq_true rfl) rfl rfl ?_
  refine xt_iload_n C dX6_item_5 rfl ?_
  refine xt_bipush (v := nI 114) C dX6_item_6 (by decide) ?_
  refine xt_icmp_eqN (tgt := 23) C dX6_item_8 (by decide) (by omega) (by omega) (fun c8 => ?_) (fun c8 => ?_)
  · exact absurd c8 (by decide)
  · refine xt_iload_n C dX6_item_11 rfl ?_
    refine xt_bipush (v := nI 109) C dX6_item_12 (by decide) ?_
    refine xt_icmp_eqN (tgt := 23) C dX6_item_14 (by decide) (by omega) (by omega) (fun c14 => ?_) (fun c14 => ?_)
    · exact absurd c14 (by decide)
    · refine xt_iload_n C dX6_item_17 rfl ?_
      refine xt_bipush (v := nI 117) C dX6_item_18 (by decide) ?_
      refine xt_icmp_neN (tgt := 167) C dX6_item_20 (by decide) (by omega) (by omega) (fun c20 => ?_) (fun c20 => ?_)
      · refine xt_iload_n C dX6_item_167 rfl ?_
        refine xt_bipush (v := nI 116) C dX6_item_168 (by decide) ?_
        refine xt_icmp_neN (tgt := 177) C dX6_item_170 (by decide) (by omega) (by omega) (fun c170 => ?_) (fun c170 => ?_)
        · refine xt_iload_n C dX6_item_177 rfl ?_
          refine xt_bipush (v := nI 108) C dX6_item_178 (by decide) ?_
          refine xt_icmp_neN (tgt := 187) C dX6_item_180 (by decide) (by omega) (by omega) (fun c180 => ?_) (fun c180 => ?_)
          · exact absurd rfl c180
          · refine xt_iconst (v := nI 1) C dX6_item_183 rfl ?_
            refine xt_goto (tgt := 198) C dX6_item_184 (by decide) ?_
            refine xt_istore_n (lo' := [_, _, _, _, _]) C dX6_item_198 (Nat.le_of_ble_eq_true rfl) rfl rfl ?_
            refine xt_iload_n C dX6_item_199 rfl ?_
            refine xt_if_geN (tgt := 205) C dX6_item_200 (by decide) (by decide) ?_
            refine xt_aload_n C dX6_item_205 rfl ?_
            refine xt_dup C dX6_item_206 rfl ?_
            refine xt_get (f := 9) C xt_u6 rfl (by decide) (xt_cl49 _ _) (by decide) lkX6_223 (xt_vI (by exact ha9)) dX6_item_207 ?_
            refine xt_iconst (v := nI 1) C dX6_item_210 rfl ?_
            refine xt_iaddN C dX6_item_211 ?_
            refine xt_put (f := 9) C xt_u6 rfl (by decide) (xt_cl49 _ _) (by decide) tyX6 tyX6_ok nmX6 lkX6_223 rfl (tyX6_ok 9 (by decide)) rfl rfl (Nat.le_of_ble_eq_true rfl) rfl dX6_item_212 ?_
            refine xt_aload_n C dX6_item_215 rfl ?_
            refine xt_cV C mv_X6_here lkX6_226 (ct_here (S := (xt_sN S 49 9 (nI (b + 1)))) (b := b + 1) hn1 h60 xt_s2_v (by omega)) rfl (by decide) (xt_cl49 _ _) rfl (by decide) rfl (Nat.le_of_ble_eq_true rfl) dX6_item_216 ?_
            refine xt_bipush (v := nI 48) C dX6_item_219 (by decide) ?_
            refine xt_bipush (v := nI 57) C dX6_item_221 (by decide) ?_
            refine xt_cS C ms_X6_in lkX6_81 ct_in rfl (by decide) rfl (Nat.le_of_ble_eq_true rfl) dX6_item_223 ?_
            refine xt_if_neB (tgt := 231) C dX6_item_226 (by decide) (fun c226 => ?_) (fun c226 => ?_)
            · exact absurd c226 hd
            · refine xt_iconst (v := -1) C dX6_item_229 rfl ?_
              exact xt_iret C dX6_item_230 ⟨by decide, by decide⟩ ⟨rfl, S.2.1 66, (xt_sA_self (S := (xt_sN S 49 9 (nI (b + 1)))) (i := 66)).symm⟩
        · exact absurd c170 (by decide)
      · exact absurd c20 (by decide)
set_option maxRecDepth 20000 in
set_option maxHeartbeats 2000000 in
theorem ct_item_x108 {n b : Nat} (hn : S.1 49 8 = nI n) (h60 : n ≤ 60) (ha9 : S.1 49 9 = nI b) (hb9 : b < 900) (hx : (xt_sg (S.2.1 54) n b) = nI 108) (hd : nI 48 ≤ (xt_sg (S.2.1 54) n (b + 1)) ∧ (xt_sg (S.2.1 54) n (b + 1)) ≤ nI 57) (hs : ¬ xt_set (nI 1) ((xt_sg (S.2.1 54) n (b + 1)) - nI 48)) : xt_Ct E l yX6_item cX6_item 5 (some Jvm.ClassFile.FieldType.int) 3 64 0 0 [.ref (E.1 49)] S (xt_Ep (some (.int (nI 3))) (fun S9 => ∃ g, S9 = xt_sA (xt_sN S 49 9 (nI (b + 1 + 1))) 66 g)) := by
  refine xt_body (by decide +kernel) (xt_all rfl) (Nat.le_of_ble_eq_true rfl) (fun cx C hl9 => ?_)
  show xt_X E cx _ 0 0 0 [some (.ref (E.1 49)), none, none, none, none] [] S
  have hnU : ∀ (q : Int32) (g : Nat → Int32), (xt_sA (xt_sN S 49 9 q) 66 g).1 49 8 = nI n := fun q g => by
    show (xt_sN S 49 9 q).1 49 8 = nI n
    rw [xt_sN_o (by omega)]
    exact hn
  have hbU : ∀ (q : Int32) (g : Nat → Int32), (xt_sA (xt_sN S 49 9 q) 66 g).1 49 9 = q := fun q g => by
    show (xt_sN S 49 9 q).1 49 9 = q
    exact xt_s2_v
  have hn1 : (xt_sN S 49 9 (nI (b + 1))).1 49 8 = nI n := (xt_sN_o (by omega)).trans hn
  have hlt : b + 1 < n := xt_sg_in (by decide) hd.1
  refine xt_aload_n C dX6_item_0 rfl ?_
  refine xt_cV C mv_X6_here lkX6_226 (ct_here hn h60 ha9 (by omega)) rfl (by decide) (xt_cl49 _ _) rfl (by decide) rfl (Nat.le_of_ble_eq_true rfl) dX6_item_1 ?_
  rw [hx]
  refine xt_istore_n (lo' := [_, _, _, _, _]) C dX6_item_4 (Nat.le_of_ble_eq_true rfl) rfl rfl ?_
  refine xt_iload_n C dX6_item_5 rfl ?_
  refine xt_bipush (v := nI 114) C dX6_item_6 (by decide) ?_
  refine xt_icmp_eqN (tgt := 23) C dX6_item_8 (by decide) (by omega) (by omega) (fun c8 => ?_) (fun c8 => ?_)
  · exact absurd c8 (by decide)
  · refine xt_iload_n C dX6_item_11 rfl ?_
    refine xt_bipush (v := nI 109) C dX6_item_12 (by decide) ?_
    refine xt_icmp_eqN (tgt := 23) C dX6_item_14 (by decide) (by omega) (by omega) (fun c14 => ?_) (fun c14 => ?_)
    · exact absurd c14 (by decide)
    · refine xt_iload_n C dX6_item_17 rfl ?_
      refine xt_bipush (v := nI 117) C dX6_item_18 (by decide) ?_
      refine xt_icmp_neN (tgt := 167) C dX6_item_20 (by decide) (by omega) (by omega) (fun c20 => ?_) (fun c20 => ?_)
      · refine xt_iload_n C dX6_item_167 rfl ?_
        refine xt_bipush (v := nI 116) C dX6_item_168 (by decide) ?_
        refine xt_icmp_neN (tgt := 177) C dX6_item_170 (by decide) (by omega) (by omega) (fun c170 => ?_) (fun c170 => ?_)
        · refine xt_iload_n C dX6_item_177 rfl ?_
          refine xt_bipush (v := nI 108) C dX6_item_178 (by decide) ?_
          refine xt_icmp_neN (tgt := 187) C dX6_item_180 (by decide) (by omega) (by omega) (fun c180 => ?_) (fun c180 => ?_)
          · exact absurd rfl c180
          · refine xt_iconst (v := nI 1) C dX6_item_183 rfl ?_
            refine xt_goto (tgt := 198) C dX6_item_184 (by decide) ?_
            refine xt_istore_n (lo' := [_, _, _, _, _]) C dX6_item_198 (Nat.le_of_ble_eq_true rfl) rfl rfl ?_
            refine xt_iload_n C dX6_item_199 rfl ?_
            refine xt_if_geN (tgt := 205) C dX6_item_200 (by decide) (by decide) ?_
            refine xt_aload_n C dX6_item_205 rfl ?_
            refine xt_dup C dX6_item_206 rfl ?_
            refine xt_get (f := 9) C xt_u6 rfl (by decide) (xt_cl49 _ _) (by decide) lkX6_223 (xt_vI (by exact ha9)) dX6_item_207 ?_
            refine xt_iconst (v := nI 1) C dX6_item_210 rfl ?_
            refine xt_iaddN C dX6_item_211 ?_
            refine xt_put (f := 9) C xt_u6 rfl (by decide) (xt_cl49 _ _) (by decide) tyX6 tyX6_ok nmX6 lkX6_223 rfl (tyX6_ok 9 (by decide)) rfl rfl (Nat.le_of_ble_eq_true rfl) rfl dX6_item_212 ?_
            refine xt_aload_n C dX6_item_215 rfl ?_
            refine xt_cV C mv_X6_here lkX6_226 (ct_here (S := (xt_sN S 49 9 (nI (b + 1)))) (b := b + 1) hn1 h60 xt_s2_v (by omega)) rfl (by decide) (xt_cl49 _ _) rfl (by decide) rfl (Nat.le_of_ble_eq_true rfl) dX6_item_216 ?_
            refine xt_bipush (v := nI 48) C dX6_item_219 (by decide) ?_
            refine xt_bipush (v := nI 57) C dX6_item_221 (by decide) ?_
            refine xt_cS C ms_X6_in lkX6_81 ct_in rfl (by decide) rfl (Nat.le_of_ble_eq_true rfl) dX6_item_223 ?_
            refine xt_if_neB (tgt := 231) C dX6_item_226 (by decide) (fun c226 => ?_) (fun c226 => ?_)
            · refine xt_aload_n C dX6_item_231 rfl ?_
              refine xt_get (f := 7) C xt_u6 rfl (by decide) (xt_cl49 _ _) (by decide) lkX6_22 rfl dX6_item_232 ?_
              refine xt_aload_n C dX6_item_235 rfl ?_
              refine xt_dup C dX6_item_236 rfl ?_
              refine xt_get (f := 9) C xt_u6 rfl (by decide) (xt_cl49 _ _) (by decide) lkX6_223 rfl dX6_item_237 ?_
              rw [show (xt_sN S 49 9 (nI (b + 1))).1 49 9 = nI (b + 1) from xt_s2_v]
              refine xt_dup_x1 C dX6_item_240 rfl rfl ?_
              refine xt_iconst (v := nI 1) C dX6_item_241 rfl ?_
              refine xt_iaddN C dX6_item_242 ?_
              refine xt_put (f := 9) C xt_u6 rfl (by decide) (xt_cl49 _ _) (by decide) tyX6 tyX6_ok nmX6 lkX6_223 rfl (tyX6_ok 9 (by decide)) rfl rfl (Nat.le_of_ble_eq_true rfl) rfl dX6_item_243 ?_
              refine xt_ialdN C (by decide) (xt_cl54 _) (by omega) (by decide) (show S.2.1 54 (b + 1) = (xt_sg (S.2.1 54) n (b + 1)) from (xt_sg1 hlt).symm) dX6_item_246 ?_
              rw [xt_s2_s]
              refine xt_bipush (v := nI 48) C dX6_item_247 (by decide) ?_
              refine xt_isub C dX6_item_249 ?_
              refine xt_istore_n (lo' := [_, _, _, _, _]) C dX6_item_250 (Nat.le_of_ble_eq_true rfl) rfl rfl ?_
              refine xt_iload_n C dX6_item_251 rfl ?_
              refine xt_iload_n C dX6_item_252 rfl ?_
              refine xt_cS C ms_X6_isSetting lkX6_148 (ct_misSetting (by decide)) rfl (by decide) rfl (Nat.le_of_ble_eq_true rfl) dX6_item_253 ?_
              refine xt_if_neB (tgt := 261) C dX6_item_256 (by decide) (fun c256 => ?_) (fun c256 => ?_)
              · exact absurd c256 hs
              · refine xt_iconst (v := nI 3) C dX6_item_259 rfl ?_
                exact xt_iret C dX6_item_260 ⟨by decide, by decide⟩ ⟨rfl, S.2.1 66, (xt_sA_self (S := (xt_sN S 49 9 (nI (b + 1 + 1)))) (i := 66)).symm⟩
            · exact absurd hd c226
        · exact absurd c170 (by decide)
      · exact absurd c20 (by decide)
set_option maxRecDepth 20000 in
set_option maxHeartbeats 2000000 in
theorem ct_item_s108 {n b : Nat} (hn : S.1 49 8 = nI n) (h60 : n ≤ 60) (ha9 : S.1 49 9 = nI b) (hb9 : b < 900) (hx : (xt_sg (S.2.1 54) n b) = nI 108) (hd : nI 48 ≤ (xt_sg (S.2.1 54) n (b + 1)) ∧ (xt_sg (S.2.1 54) n (b + 1)) ≤ nI 57) (hs : xt_set (nI 1) ((xt_sg (S.2.1 54) n (b + 1)) - nI 48)) : xt_Ct E l yX6_item cX6_item 5 (some Jvm.ClassFile.FieldType.int) 3 64 0 0 [.ref (E.1 49)] S (xt_Ep (some (.int (nI 0))) (fun S9 => ∃ g W, S9 = xt_sA (xt_sA (xt_sN S 49 9 (nI (b + 1 + 1))) 66 g) 53 W ∧ W = upd (S.2.1 53) 3 ((xt_sg (S.2.1 54) n (b + 1)) - nI 48))) := by
  refine xt_body (by decide +kernel) (xt_all rfl) (Nat.le_of_ble_eq_true rfl) (fun cx C hl9 => ?_)
  show xt_X E cx _ 0 0 0 [some (.ref (E.1 49)), none, none, none, none] [] S
  have hnU : ∀ (q : Int32) (g : Nat → Int32), (xt_sA (xt_sN S 49 9 q) 66 g).1 49 8 = nI n := fun q g => by
    show (xt_sN S 49 9 q).1 49 8 = nI n
    rw [xt_sN_o (by omega)]
    exact hn
  have hbU : ∀ (q : Int32) (g : Nat → Int32), (xt_sA (xt_sN S 49 9 q) 66 g).1 49 9 = q := fun q g => by
    show (xt_sN S 49 9 q).1 49 9 = q
    exact xt_s2_v
  have hn1 : (xt_sN S 49 9 (nI (b + 1))).1 49 8 = nI n := (xt_sN_o (by omega)).trans hn
  have hlt : b + 1 < n := xt_sg_in (by decide) hd.1
  refine xt_aload_n C dX6_item_0 rfl ?_
  refine xt_cV C mv_X6_here lkX6_226 (ct_here hn h60 ha9 (by omega)) rfl (by decide) (xt_cl49 _ _) rfl (by decide) rfl (Nat.le_of_ble_eq_true rfl) dX6_item_1 ?_
  rw [hx]
  refine xt_istore_n (lo' := [_, _, _, _, _]) C dX6_item_4 (Nat.le_of_ble_eq_true rfl) rfl rfl ?_
  refine xt_iload_n C dX6_item_5 rfl ?_
  refine xt_bipush (v := nI 114) C dX6_item_6 (by decide) ?_
  refine xt_icmp_eqN (tgt := 23) C dX6_item_8 (by decide) (by omega) (by omega) (fun c8 => ?_) (fun c8 => ?_)
  · exact absurd c8 (by decide)
  · refine xt_iload_n C dX6_item_11 rfl ?_
    refine xt_bipush (v := nI 109) C dX6_item_12 (by decide) ?_
    refine xt_icmp_eqN (tgt := 23) C dX6_item_14 (by decide) (by omega) (by omega) (fun c14 => ?_) (fun c14 => ?_)
    · exact absurd c14 (by decide)
    · refine xt_iload_n C dX6_item_17 rfl ?_
      refine xt_bipush (v := nI 117) C dX6_item_18 (by decide) ?_
      refine xt_icmp_neN (tgt := 167) C dX6_item_20 (by decide) (by omega) (by omega) (fun c20 => ?_) (fun c20 => ?_)
      · refine xt_iload_n C dX6_item_167 rfl ?_
        refine xt_bipush (v := nI 116) C dX6_item_168 (by decide) ?_
        refine xt_icmp_neN (tgt := 177) C dX6_item_170 (by decide) (by omega) (by omega) (fun c170 => ?_) (fun c170 => ?_)
        · refine xt_iload_n C dX6_item_177 rfl ?_
          refine xt_bipush (v := nI 108) C dX6_item_178 (by decide) ?_
          refine xt_icmp_neN (tgt := 187) C dX6_item_180 (by decide) (by omega) (by omega) (fun c180 => ?_) (fun c180 => ?_)
          · exact absurd rfl c180
          · refine xt_iconst (v := nI 1) C dX6_item_183 rfl ?_
            refine xt_goto (tgt := 198) C dX6_item_184 (by decide) ?_
            refine xt_istore_n (lo' := [_, _, _, _, _]) C dX6_item_198 (Nat.le_of_ble_eq_true rfl) rfl rfl ?_
            refine xt_iload_n C dX6_item_199 rfl ?_
            refine xt_if_geN (tgt := 205) C dX6_item_200 (by decide) (by decide) ?_
            refine xt_aload_n C dX6_item_205 rfl ?_
            refine xt_dup C dX6_item_206 rfl ?_
            refine xt_get (f := 9) C xt_u6 rfl (by decide) (xt_cl49 _ _) (by decide) lkX6_223 (xt_vI (by exact ha9)) dX6_item_207 ?_
            refine xt_iconst (v := nI 1) C dX6_item_210 rfl ?_
            refine xt_iaddN C dX6_item_211 ?_
            refine xt_put (f := 9) C xt_u6 rfl (by decide) (xt_cl49 _ _) (by decide) tyX6 tyX6_ok nmX6 lkX6_223 rfl (tyX6_ok 9 (by decide)) rfl rfl (Nat.le_of_ble_eq_true rfl) rfl dX6_item_212 ?_
            refine xt_aload_n C dX6_item_215 rfl ?_
            refine xt_cV C mv_X6_here lkX6_226 (ct_here (S := (xt_sN S 49 9 (nI (b + 1)))) (b := b + 1) hn1 h60 xt_s2_v (by omega)) rfl (by decide) (xt_cl49 _ _) rfl (by decide) rfl (Nat.le_of_ble_eq_true rfl) dX6_item_216 ?_
            refine xt_bipush (v := nI 48) C dX6_item_219 (by decide) ?_
            refine xt_bipush (v := nI 57) C dX6_item_221 (by decide) ?_
            refine xt_cS C ms_X6_in lkX6_81 ct_in rfl (by decide) rfl (Nat.le_of_ble_eq_true rfl) dX6_item_223 ?_
            refine xt_if_neB (tgt := 231) C dX6_item_226 (by decide) (fun c226 => ?_) (fun c226 => ?_)
            · refine xt_aload_n C dX6_item_231 rfl ?_
              refine xt_get (f := 7) C xt_u6 rfl (by decide) (xt_cl49 _ _) (by decide) lkX6_22 rfl dX6_item_232 ?_
              refine xt_aload_n C dX6_item_235 rfl ?_
              refine xt_dup C dX6_item_236 rfl ?_
              refine xt_get (f := 9) C xt_u6 rfl (by decide) (xt_cl49 _ _) (by decide) lkX6_223 rfl dX6_item_237 ?_
              rw [show (xt_sN S 49 9 (nI (b + 1))).1 49 9 = nI (b + 1) from xt_s2_v]
              refine xt_dup_x1 C dX6_item_240 rfl rfl ?_
              refine xt_iconst (v := nI 1) C dX6_item_241 rfl ?_
              refine xt_iaddN C dX6_item_242 ?_
              refine xt_put (f := 9) C xt_u6 rfl (by decide) (xt_cl49 _ _) (by decide) tyX6 tyX6_ok nmX6 lkX6_223 rfl (tyX6_ok 9 (by decide)) rfl rfl (Nat.le_of_ble_eq_true rfl) rfl dX6_item_243 ?_
              refine xt_ialdN C (by decide) (xt_cl54 _) (by omega) (by decide) (show S.2.1 54 (b + 1) = (xt_sg (S.2.1 54) n (b + 1)) from (xt_sg1 hlt).symm) dX6_item_246 ?_
              rw [xt_s2_s]
              refine xt_bipush (v := nI 48) C dX6_item_247 (by decide) ?_
              refine xt_isub C dX6_item_249 ?_
              refine xt_istore_n (lo' := [_, _, _, _, _]) C dX6_item_250 (Nat.le_of_ble_eq_true rfl) rfl rfl ?_
              refine xt_iload_n C dX6_item_251 rfl ?_
              refine xt_iload_n C dX6_item_252 rfl ?_
              refine xt_cS C ms_X6_isSetting lkX6_148 (ct_misSetting (by decide)) rfl (by decide) rfl (Nat.le_of_ble_eq_true rfl) dX6_item_253 ?_
              refine xt_if_neB (tgt := 261) C dX6_item_256 (by decide) (fun c256 => ?_) (fun c256 => ?_)
              · refine xt_aload_n C dX6_item_261 rfl ?_
                refine xt_get (f := 6) C xt_u6 rfl (by decide) (xt_cl49 _ _) (by decide) lkX6_19 rfl dX6_item_262 ?_
                refine xt_iconst (v := nI 2) C dX6_item_265 rfl ?_
                refine xt_iload_n C dX6_item_266 rfl ?_
                refine xt_iaddN C dX6_item_267 ?_
                refine xt_iload_n C dX6_item_268 rfl ?_
                refine xt_iastN C (by decide) (xt_cl53 _) (by omega) (by decide) dX6_item_269 ?_
                refine xt_iconst (v := nI 0) C dX6_item_270 rfl ?_
                exact xt_iret C dX6_item_271 ⟨by decide, by decide⟩ ⟨rfl, S.2.1 66, _, by rw [show xt_sA (xt_sN S 49 9 (nI (b + 1 + 1))) 66 (S.2.1 66) = (xt_sN S 49 9 (nI (b + 1 + 1))) from xt_sA_self (S := (xt_sN S 49 9 (nI (b + 1 + 1)))) (i := 66)]; rfl, rfl⟩
              · exact absurd hs c256
            · exact absurd hd c226
        · exact absurd c170 (by decide)
      · exact absurd c20 (by decide)
set_option maxRecDepth 20000 in
set_option maxHeartbeats 2000000 in
theorem ct_item_d98 {n b : Nat} (hn : S.1 49 8 = nI n) (h60 : n ≤ 60) (ha9 : S.1 49 9 = nI b) (hb9 : b < 900) (hx : (xt_sg (S.2.1 54) n b) = nI 98) (hd : ¬ (nI 48 ≤ (xt_sg (S.2.1 54) n (b + 1)) ∧ (xt_sg (S.2.1 54) n (b + 1)) ≤ nI 57)) : xt_Ct E l yX6_item cX6_item 5 (some Jvm.ClassFile.FieldType.int) 3 64 0 0 [.ref (E.1 49)] S (xt_Ep (some (.int (-1))) (fun S9 => ∃ g, S9 = (xt_sA (xt_sN S 49 9 (nI (b + 1))) 66 g))) := by
  refine xt_body (by decide +kernel) (xt_all rfl) (Nat.le_of_ble_eq_true rfl) (fun cx C hl9 => ?_)
  show xt_X E cx _ 0 0 0 [some (.ref (E.1 49)), none, none, none, none] [] S
  have hnU : ∀ (q : Int32) (g : Nat → Int32), (xt_sA (xt_sN S 49 9 q) 66 g).1 49 8 = nI n := fun q g => by
    show (xt_sN S 49 9 q).1 49 8 = nI n
    rw [xt_sN_o (by omega)]
    exact hn
  have hbU : ∀ (q : Int32) (g : Nat → Int32), (xt_sA (xt_sN S 49 9 q) 66 g).1 49 9 = q := fun q g => by
    show (xt_sN S 49 9 q).1 49 9 = q
    exact xt_s2_v
  have hn1 : (xt_sN S 49 9 (nI (b + 1))).1 49 8 = nI n := (xt_sN_o (by omega)).trans hn
  refine xt_aload_n C dX6_item_0 rfl ?_
  refine xt_cV C mv_X6_here lkX6_226 (ct_here hn h60 ha9 (by omega)) rfl (by decide) (xt_cl49 _ _) rfl (by decide) rfl (Nat.le_of_ble_eq_true rfl) dX6_item_1 ?_
  rw [hx]
  refine xt_istore_n (lo' := [_, _, _, _, _]) C dX6_item_4 (Nat.le_of_ble_eq_true rfl) rfl rfl ?_
  refine xt_iload_n C dX6_item_5 rfl ?_
  refine xt_bipush (v := nI 114) C dX6_item_6 (by decide) ?_
  refine xt_icmp_eqN (tgt := 23) C dX6_item_8 (by decide) (by omega) (by omega) (fun c8 => ?_) (fun c8 => ?_)
  · exact absurd c8 (by decide)
  · refine xt_iload_n C dX6_item_11 rfl ?_
    refine xt_bipush (v := nI 109) C dX6_item_12 (by decide) ?_
    refine xt_icmp_eqN (tgt := 23) C dX6_item_14 (by decide) (by omega) (by omega) (fun c14 => ?_) (fun c14 => ?_)
    · exact absurd c14 (by decide)
    · refine xt_iload_n C dX6_item_17 rfl ?_
      refine xt_bipush (v := nI 117) C dX6_item_18 (by decide) ?_
      refine xt_icmp_neN (tgt := 167) C dX6_item_20 (by decide) (by omega) (by omega) (fun c20 => ?_) (fun c20 => ?_)
      · refine xt_iload_n C dX6_item_167 rfl ?_
        refine xt_bipush (v := nI 116) C dX6_item_168 (by decide) ?_
        refine xt_icmp_neN (tgt := 177) C dX6_item_170 (by decide) (by omega) (by omega) (fun c170 => ?_) (fun c170 => ?_)
        · refine xt_iload_n C dX6_item_177 rfl ?_
          refine xt_bipush (v := nI 108) C dX6_item_178 (by decide) ?_
          refine xt_icmp_neN (tgt := 187) C dX6_item_180 (by decide) (by omega) (by omega) (fun c180 => ?_) (fun c180 => ?_)
          · refine xt_iload_n C dX6_item_187 rfl ?_
            refine xt_bipush (v := nI 98) C dX6_item_188 (by decide) ?_
            refine xt_icmp_neN (tgt := 197) C dX6_item_190 (by decide) (by omega) (by omega) (fun c190 => ?_) (fun c190 => ?_)
            · exact absurd rfl c190
            · refine xt_iconst (v := nI 2) C dX6_item_193 rfl ?_
              refine xt_goto (tgt := 198) C dX6_item_194 (by decide) ?_
              refine xt_istore_n (lo' := [_, _, _, _, _]) C dX6_item_198 (Nat.le_of_ble_eq_true rfl) rfl rfl ?_
              refine xt_iload_n C dX6_item_199 rfl ?_
              refine xt_if_geN (tgt := 205) C dX6_item_200 (by decide) (by decide) ?_
              refine xt_aload_n C dX6_item_205 rfl ?_
              refine xt_dup C dX6_item_206 rfl ?_
              refine xt_get (f := 9) C xt_u6 rfl (by decide) (xt_cl49 _ _) (by decide) lkX6_223 (xt_vI (by exact ha9)) dX6_item_207 ?_
              refine xt_iconst (v := nI 1) C dX6_item_210 rfl ?_
              refine xt_iaddN C dX6_item_211 ?_
              refine xt_put (f := 9) C xt_u6 rfl (by decide) (xt_cl49 _ _) (by decide) tyX6 tyX6_ok nmX6 lkX6_223 rfl (tyX6_ok 9 (by decide)) rfl rfl (Nat.le_of_ble_eq_true rfl) rfl dX6_item_212 ?_
              refine xt_aload_n C dX6_item_215 rfl ?_
              refine xt_cV C mv_X6_here lkX6_226 (ct_here (S := (xt_sN S 49 9 (nI (b + 1)))) (b := b + 1) hn1 h60 xt_s2_v (by omega)) rfl (by decide) (xt_cl49 _ _) rfl (by decide) rfl (Nat.le_of_ble_eq_true rfl) dX6_item_216 ?_
              refine xt_bipush (v := nI 48) C dX6_item_219 (by decide) ?_
              refine xt_bipush (v := nI 57) C dX6_item_221 (by decide) ?_
              refine xt_cS C ms_X6_in lkX6_81 ct_in rfl (by decide) rfl (Nat.le_of_ble_eq_true rfl) dX6_item_223 ?_
              refine xt_if_neB (tgt := 231) C dX6_item_226 (by decide) (fun c226 => ?_) (fun c226 => ?_)
              · exact absurd c226 hd
              · refine xt_iconst (v := -1) C dX6_item_229 rfl ?_
                exact xt_iret C dX6_item_230 ⟨by decide, by decide⟩ ⟨rfl, S.2.1 66, (xt_sA_self (S := (xt_sN S 49 9 (nI (b + 1)))) (i := 66)).symm⟩
          · exact absurd c180 (by decide)
        · exact absurd c170 (by decide)
      · exact absurd c20 (by decide)
set_option maxRecDepth 20000 in
set_option maxHeartbeats 2000000 in
theorem ct_item_x98 {n b : Nat} (hn : S.1 49 8 = nI n) (h60 : n ≤ 60) (ha9 : S.1 49 9 = nI b) (hb9 : b < 900) (hx : (xt_sg (S.2.1 54) n b) = nI 98) (hd : nI 48 ≤ (xt_sg (S.2.1 54) n (b + 1)) ∧ (xt_sg (S.2.1 54) n (b + 1)) ≤ nI 57) (hs : ¬ xt_set (nI 2) ((xt_sg (S.2.1 54) n (b + 1)) - nI 48)) : xt_Ct E l yX6_item cX6_item 5 (some Jvm.ClassFile.FieldType.int) 3 64 0 0 [.ref (E.1 49)] S (xt_Ep (some (.int (nI 3))) (fun S9 => ∃ g, S9 = xt_sA (xt_sN S 49 9 (nI (b + 1 + 1))) 66 g)) := by
  refine xt_body (by decide +kernel) (xt_all rfl) (Nat.le_of_ble_eq_true rfl) (fun cx C hl9 => ?_)
  show xt_X E cx _ 0 0 0 [some (.ref (E.1 49)), none, none, none, none] [] S
  have hnU : ∀ (q : Int32) (g : Nat → Int32), (xt_sA (xt_sN S 49 9 q) 66 g).1 49 8 = nI n := fun q g => by
    show (xt_sN S 49 9 q).1 49 8 = nI n
    rw [xt_sN_o (by omega)]
    exact hn
  have hbU : ∀ (q : Int32) (g : Nat → Int32), (xt_sA (xt_sN S 49 9 q) 66 g).1 49 9 = q := fun q g => by
    show (xt_sN S 49 9 q).1 49 9 = q
    exact xt_s2_v
  have hn1 : (xt_sN S 49 9 (nI (b + 1))).1 49 8 = nI n := (xt_sN_o (by omega)).trans hn
  have hlt : b + 1 < n := xt_sg_in (by decide) hd.1
  refine xt_aload_n C dX6_item_0 rfl ?_
  refine xt_cV C mv_X6_here lkX6_226 (ct_here hn h60 ha9 (by omega)) rfl (by decide) (xt_cl49 _ _) rfl (by decide) rfl (Nat.le_of_ble_eq_true rfl) dX6_item_1 ?_
  rw [hx]
  refine xt_istore_n (lo' := [_, _, _, _, _]) C dX6_item_4 (Nat.le_of_ble_eq_true rfl) rfl rfl ?_
  refine xt_iload_n C dX6_item_5 rfl ?_
  refine xt_bipush (v := nI 114) C dX6_item_6 (by decide) ?_
  refine xt_icmp_eqN (tgt := 23) C dX6_item_8 (by decide) (by omega) (by omega) (fun c8 => ?_) (fun c8 => ?_)
  · exact absurd c8 (by decide)
  · refine xt_iload_n C dX6_item_11 rfl ?_
    refine xt_bipush (v := nI 109) C dX6_item_12 (by decide) ?_
    refine xt_icmp_eqN (tgt := 23) C dX6_item_14 (by decide) (by omega) (by omega) (fun c14 => ?_) (fun c14 => ?_)
    · exact absurd c14 (by decide)
    · refine xt_iload_n C dX6_item_17 rfl ?_
      refine xt_bipush (v := nI 117) C dX6_item_18 (by decide) ?_
      refine xt_icmp_neN (tgt := 167) C dX6_item_20 (by decide) (by omega) (by omega) (fun c20 => ?_) (fun c20 => ?_)
      · refine xt_iload_n C dX6_item_167 rfl ?_
        refine xt_bipush (v := nI 116) C dX6_item_168 (by decide) ?_
        refine xt_icmp_neN (tgt := 177) C dX6_item_170 (by decide) (by omega) (by omega) (fun c170 => ?_) (fun c170 => ?_)
        · refine xt_iload_n C dX6_item_177 rfl ?_
          refine xt_bipush (v := nI 108) C dX6_item_178 (by decide) ?_
          refine xt_icmp_neN (tgt := 187) C dX6_item_180 (by decide) (by omega) (by omega) (fun c180 => ?_) (fun c180 => ?_)
          · refine xt_iload_n C dX6_item_187 rfl ?_
            refine xt_bipush (v := nI 98) C dX6_item_188 (by decide) ?_
            refine xt_icmp_neN (tgt := 197) C dX6_item_190 (by decide) (by omega) (by omega) (fun c190 => ?_) (fun c190 => ?_)
            · exact absurd rfl c190
            · refine xt_iconst (v := nI 2) C dX6_item_193 rfl ?_
              refine xt_goto (tgt := 198) C dX6_item_194 (by decide) ?_
              refine xt_istore_n (lo' := [_, _, _, _, _]) C dX6_item_198 (Nat.le_of_ble_eq_true rfl) rfl rfl ?_
              refine xt_iload_n C dX6_item_199 rfl ?_
              refine xt_if_geN (tgt := 205) C dX6_item_200 (by decide) (by decide) ?_
              refine xt_aload_n C dX6_item_205 rfl ?_
              refine xt_dup C dX6_item_206 rfl ?_
              refine xt_get (f := 9) C xt_u6 rfl (by decide) (xt_cl49 _ _) (by decide) lkX6_223 (xt_vI (by exact ha9)) dX6_item_207 ?_
              refine xt_iconst (v := nI 1) C dX6_item_210 rfl ?_
              refine xt_iaddN C dX6_item_211 ?_
              refine xt_put (f := 9) C xt_u6 rfl (by decide) (xt_cl49 _ _) (by decide) tyX6 tyX6_ok nmX6 lkX6_223 rfl (tyX6_ok 9 (by decide)) rfl rfl (Nat.le_of_ble_eq_true rfl) rfl dX6_item_212 ?_
              refine xt_aload_n C dX6_item_215 rfl ?_
              refine xt_cV C mv_X6_here lkX6_226 (ct_here (S := (xt_sN S 49 9 (nI (b + 1)))) (b := b + 1) hn1 h60 xt_s2_v (by omega)) rfl (by decide) (xt_cl49 _ _) rfl (by decide) rfl (Nat.le_of_ble_eq_true rfl) dX6_item_216 ?_
              refine xt_bipush (v := nI 48) C dX6_item_219 (by decide) ?_
              refine xt_bipush (v := nI 57) C dX6_item_221 (by decide) ?_
              refine xt_cS C ms_X6_in lkX6_81 ct_in rfl (by decide) rfl (Nat.le_of_ble_eq_true rfl) dX6_item_223 ?_
              refine xt_if_neB (tgt := 231) C dX6_item_226 (by decide) (fun c226 => ?_) (fun c226 => ?_)
              · refine xt_aload_n C dX6_item_231 rfl ?_
                refine xt_get (f := 7) C xt_u6 rfl (by decide) (xt_cl49 _ _) (by decide) lkX6_22 rfl dX6_item_232 ?_
                refine xt_aload_n C dX6_item_235 rfl ?_
                refine xt_dup C dX6_item_236 rfl ?_
                refine xt_get (f := 9) C xt_u6 rfl (by decide) (xt_cl49 _ _) (by decide) lkX6_223 rfl dX6_item_237 ?_
                rw [show (xt_sN S 49 9 (nI (b + 1))).1 49 9 = nI (b + 1) from xt_s2_v]
                refine xt_dup_x1 C dX6_item_240 rfl rfl ?_
                refine xt_iconst (v := nI 1) C dX6_item_241 rfl ?_
                refine xt_iaddN C dX6_item_242 ?_
                refine xt_put (f := 9) C xt_u6 rfl (by decide) (xt_cl49 _ _) (by decide) tyX6 tyX6_ok nmX6 lkX6_223 rfl (tyX6_ok 9 (by decide)) rfl rfl (Nat.le_of_ble_eq_true rfl) rfl dX6_item_243 ?_
                refine xt_ialdN C (by decide) (xt_cl54 _) (by omega) (by decide) (show S.2.1 54 (b + 1) = (xt_sg (S.2.1 54) n (b + 1)) from (xt_sg1 hlt).symm) dX6_item_246 ?_
                rw [xt_s2_s]
                refine xt_bipush (v := nI 48) C dX6_item_247 (by decide) ?_
                refine xt_isub C dX6_item_249 ?_
                refine xt_istore_n (lo' := [_, _, _, _, _]) C dX6_item_250 (Nat.le_of_ble_eq_true rfl) rfl rfl ?_
                refine xt_iload_n C dX6_item_251 rfl ?_
                refine xt_iload_n C dX6_item_252 rfl ?_
                refine xt_cS C ms_X6_isSetting lkX6_148 (ct_misSetting (by decide)) rfl (by decide) rfl (Nat.le_of_ble_eq_true rfl) dX6_item_253 ?_
                refine xt_if_neB (tgt := 261) C dX6_item_256 (by decide) (fun c256 => ?_) (fun c256 => ?_)
                · exact absurd c256 hs
                · refine xt_iconst (v := nI 3) C dX6_item_259 rfl ?_
                  exact xt_iret C dX6_item_260 ⟨by decide, by decide⟩ ⟨rfl, S.2.1 66, (xt_sA_self (S := (xt_sN S 49 9 (nI (b + 1 + 1)))) (i := 66)).symm⟩
              · exact absurd hd c226
          · exact absurd c180 (by decide)
        · exact absurd c170 (by decide)
      · exact absurd c20 (by decide)
set_option maxRecDepth 20000 in
set_option maxHeartbeats 2000000 in
theorem ct_item_s98 {n b : Nat} (hn : S.1 49 8 = nI n) (h60 : n ≤ 60) (ha9 : S.1 49 9 = nI b) (hb9 : b < 900) (hx : (xt_sg (S.2.1 54) n b) = nI 98) (hd : nI 48 ≤ (xt_sg (S.2.1 54) n (b + 1)) ∧ (xt_sg (S.2.1 54) n (b + 1)) ≤ nI 57) (hs : xt_set (nI 2) ((xt_sg (S.2.1 54) n (b + 1)) - nI 48)) : xt_Ct E l yX6_item cX6_item 5 (some Jvm.ClassFile.FieldType.int) 3 64 0 0 [.ref (E.1 49)] S (xt_Ep (some (.int (nI 0))) (fun S9 => ∃ g W, S9 = xt_sA (xt_sA (xt_sN S 49 9 (nI (b + 1 + 1))) 66 g) 53 W ∧ W = upd (S.2.1 53) 4 ((xt_sg (S.2.1 54) n (b + 1)) - nI 48))) := by
  refine xt_body (by decide +kernel) (xt_all rfl) (Nat.le_of_ble_eq_true rfl) (fun cx C hl9 => ?_)
  show xt_X E cx _ 0 0 0 [some (.ref (E.1 49)), none, none, none, none] [] S
  have hnU : ∀ (q : Int32) (g : Nat → Int32), (xt_sA (xt_sN S 49 9 q) 66 g).1 49 8 = nI n := fun q g => by
    show (xt_sN S 49 9 q).1 49 8 = nI n
    rw [xt_sN_o (by omega)]
    exact hn
  have hbU : ∀ (q : Int32) (g : Nat → Int32), (xt_sA (xt_sN S 49 9 q) 66 g).1 49 9 = q := fun q g => by
    show (xt_sN S 49 9 q).1 49 9 = q
    exact xt_s2_v
  have hn1 : (xt_sN S 49 9 (nI (b + 1))).1 49 8 = nI n := (xt_sN_o (by omega)).trans hn
  have hlt : b + 1 < n := xt_sg_in (by decide) hd.1
  refine xt_aload_n C dX6_item_0 rfl ?_
  refine xt_cV C mv_X6_here lkX6_226 (ct_here hn h60 ha9 (by omega)) rfl (by decide) (xt_cl49 _ _) rfl (by decide) rfl (Nat.le_of_ble_eq_true rfl) dX6_item_1 ?_
  rw [hx]
  refine xt_istore_n (lo' := [_, _, _, _, _]) C dX6_item_4 (Nat.le_of_ble_eq_true rfl) rfl rfl ?_
  refine xt_iload_n C dX6_item_5 rfl ?_
  refine xt_bipush (v := nI 114) C dX6_item_6 (by decide) ?_
  refine xt_icmp_eqN (tgt := 23) C dX6_item_8 (by decide) (by omega) (by omega) (fun c8 => ?_) (fun c8 => ?_)
  · exact absurd c8 (by decide)
  · refine xt_iload_n C dX6_item_11 rfl ?_
    refine xt_bipush (v := nI 109) C dX6_item_12 (by decide) ?_
    refine xt_icmp_eqN (tgt := 23) C dX6_item_14 (by decide) (by omega) (by omega) (fun c14 => ?_) (fun c14 => ?_)
    · exact absurd c14 (by decide)
    · refine xt_iload_n C dX6_item_17 rfl ?_
      refine xt_bipush (v := nI 117) C dX6_item_18 (by decide) ?_
      refine xt_icmp_neN (tgt := 167) C dX6_item_20 (by decide) (by omega) (by omega) (fun c20 => ?_) (fun c20 => ?_)
      · refine xt_iload_n C dX6_item_167 rfl ?_
        refine xt_bipush (v := nI 116) C dX6_item_168 (by decide) ?_
        refine xt_icmp_neN (tgt := 177) C dX6_item_170 (by decide) (by omega) (by omega) (fun c170 => ?_) (fun c170 => ?_)
        · refine xt_iload_n C dX6_item_177 rfl ?_
          refine xt_bipush (v := nI 108) C dX6_item_178 (by decide) ?_
          refine xt_icmp_neN (tgt := 187) C dX6_item_180 (by decide) (by omega) (by omega) (fun c180 => ?_) (fun c180 => ?_)
          · refine xt_iload_n C dX6_item_187 rfl ?_
            refine xt_bipush (v := nI 98) C dX6_item_188 (by decide) ?_
            refine xt_icmp_neN (tgt := 197) C dX6_item_190 (by decide) (by omega) (by omega) (fun c190 => ?_) (fun c190 => ?_)
            · exact absurd rfl c190
            · refine xt_iconst (v := nI 2) C dX6_item_193 rfl ?_
              refine xt_goto (tgt := 198) C dX6_item_194 (by decide) ?_
              refine xt_istore_n (lo' := [_, _, _, _, _]) C dX6_item_198 (Nat.le_of_ble_eq_true rfl) rfl rfl ?_
              refine xt_iload_n C dX6_item_199 rfl ?_
              refine xt_if_geN (tgt := 205) C dX6_item_200 (by decide) (by decide) ?_
              refine xt_aload_n C dX6_item_205 rfl ?_
              refine xt_dup C dX6_item_206 rfl ?_
              refine xt_get (f := 9) C xt_u6 rfl (by decide) (xt_cl49 _ _) (by decide) lkX6_223 (xt_vI (by exact ha9)) dX6_item_207 ?_
              refine xt_iconst (v := nI 1) C dX6_item_210 rfl ?_
              refine xt_iaddN C dX6_item_211 ?_
              refine xt_put (f := 9) C xt_u6 rfl (by decide) (xt_cl49 _ _) (by decide) tyX6 tyX6_ok nmX6 lkX6_223 rfl (tyX6_ok 9 (by decide)) rfl rfl (Nat.le_of_ble_eq_true rfl) rfl dX6_item_212 ?_
              refine xt_aload_n C dX6_item_215 rfl ?_
              refine xt_cV C mv_X6_here lkX6_226 (ct_here (S := (xt_sN S 49 9 (nI (b + 1)))) (b := b + 1) hn1 h60 xt_s2_v (by omega)) rfl (by decide) (xt_cl49 _ _) rfl (by decide) rfl (Nat.le_of_ble_eq_true rfl) dX6_item_216 ?_
              refine xt_bipush (v := nI 48) C dX6_item_219 (by decide) ?_
              refine xt_bipush (v := nI 57) C dX6_item_221 (by decide) ?_
              refine xt_cS C ms_X6_in lkX6_81 ct_in rfl (by decide) rfl (Nat.le_of_ble_eq_true rfl) dX6_item_223 ?_
              refine xt_if_neB (tgt := 231) C dX6_item_226 (by decide) (fun c226 => ?_) (fun c226 => ?_)
              · refine xt_aload_n C dX6_item_231 rfl ?_
                refine xt_get (f := 7) C xt_u6 rfl (by decide) (xt_cl49 _ _) (by decide) lkX6_22 rfl dX6_item_232 ?_
                refine xt_aload_n C dX6_item_235 rfl ?_
                refine xt_dup C dX6_item_236 rfl ?_
                refine xt_get (f := 9) C xt_u6 rfl (by decide) (xt_cl49 _ _) (by decide) lkX6_223 rfl dX6_item_237 ?_
                rw [show (xt_sN S 49 9 (nI (b + 1))).1 49 9 = nI (b + 1) from xt_s2_v]
                refine xt_dup_x1 C dX6_item_240 rfl rfl ?_
                refine xt_iconst (v := nI 1) C dX6_item_241 rfl ?_
                refine xt_iaddN C dX6_item_242 ?_
                refine xt_put (f := 9) C xt_u6 rfl (by decide) (xt_cl49 _ _) (by decide) tyX6 tyX6_ok nmX6 lkX6_223 rfl (tyX6_ok 9 (by decide)) rfl rfl (Nat.le_of_ble_eq_true rfl) rfl dX6_item_243 ?_
                refine xt_ialdN C (by decide) (xt_cl54 _) (by omega) (by decide) (show S.2.1 54 (b + 1) = (xt_sg (S.2.1 54) n (b + 1)) from (xt_sg1 hlt).symm) dX6_item_246 ?_
                rw [xt_s2_s]
                refine xt_bipush (v := nI 48) C dX6_item_247 (by decide) ?_
                refine xt_isub C dX6_item_249 ?_
                refine xt_istore_n (lo' := [_, _, _, _, _]) C dX6_item_250 (Nat.le_of_ble_eq_true rfl) rfl rfl ?_
                refine xt_iload_n C dX6_item_251 rfl ?_
                refine xt_iload_n C dX6_item_252 rfl ?_
                refine xt_cS C ms_X6_isSetting lkX6_148 (ct_misSetting (by decide)) rfl (by decide) rfl (Nat.le_of_ble_eq_true rfl) dX6_item_253 ?_
                refine xt_if_neB (tgt := 261) C dX6_item_256 (by decide) (fun c256 => ?_) (fun c256 => ?_)
                · refine xt_aload_n C dX6_item_261 rfl ?_
                  refine xt_get (f := 6) C xt_u6 rfl (by decide) (xt_cl49 _ _) (by decide) lkX6_19 rfl dX6_item_262 ?_
                  refine xt_iconst (v := nI 2) C dX6_item_265 rfl ?_
                  refine xt_iload_n C dX6_item_266 rfl ?_
                  refine xt_iaddN C dX6_item_267 ?_
                  refine xt_iload_n C dX6_item_268 rfl ?_
                  refine xt_iastN C (by decide) (xt_cl53 _) (by omega) (by decide) dX6_item_269 ?_
                  refine xt_iconst (v := nI 0) C dX6_item_270 rfl ?_
                  exact xt_iret C dX6_item_271 ⟨by decide, by decide⟩ ⟨rfl, S.2.1 66, _, by rw [show xt_sA (xt_sN S 49 9 (nI (b + 1 + 1))) 66 (S.2.1 66) = (xt_sN S 49 9 (nI (b + 1 + 1))) from xt_sA_self (S := (xt_sN S 49 9 (nI (b + 1 + 1)))) (i := 66)]; rfl, rfl⟩
                · exact absurd hs c256
              · exact absurd hd c226
          · exact absurd c180 (by decide)
        · exact absurd c170 (by decide)
      · exact absurd c20 (by decide)
end XM21
