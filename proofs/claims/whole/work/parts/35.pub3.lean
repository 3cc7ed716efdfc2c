/-! THE TILER: coefficient, bits -/
section XC27
variable {E : xt_Ev} {l : Launch} {S : xt_St}
set_option maxRecDepth 20000 in
set_option maxHeartbeats 2000000 in
theorem ct_coefficient_ok {QX : String → xt_St → Prop} {c r sd pl pb : Nat} (hP : xt_Pic S 1 c r sd pl pb) {t : Nat} (ht : t < xt_nt c r sd) (hk : ∀ j, j < 256 → S.2.1 3 j = nI 0 ∨ S.2.1 3 j = nI 1) {x y : Nat} (hx : x < xt_gw c sd t) (hy : y < xt_gh c r sd t) : xt_CtX E l yX5_coefficient cX5_coefficient 4 (some Jvm.ClassFile.FieldType.int) 7 131 1 6 [.ref (E.1 0), .int (nI t), .int (nI x), .int (nI y)] S (xt_Ep (some (.int (xt_tC c r sd pl t (S.2.1 2) (8 * y + x)))) (fun S9 => xt_fr S S9)) QX := by
  refine xt_bodyX (by decide +kernel) (xt_all rfl) (Nat.le_of_ble_eq_true rfl) (fun cx C hl9 hx9 => ?_)
  show xt_X E cx _ 0 0 0 [some (.ref (E.1 0)), some (.int (nI t)), some (.int (nI x)), some (.int (nI y))] [] S
  have hP9 := hP
  obtain ⟨hc, hr, hs, hv, hb, b1, b2, b3, b4, b5, b6, b7⟩ := hP
  have hn := xt_nt_b ⟨b1, b2⟩ ⟨b3, b4⟩ b5
  have hT := xt_tile_b ⟨b1, b2⟩ ⟨b3, b4⟩ b5 ht
  have hw8 : xt_gw c sd t ≤ 8 := by have := hT; omega
  have hh8 : xt_gh c r sd t ≤ 8 := by have := hT; omega
  have hp64 : 8 * y + x < 64 := by omega
  refine xt_aload_n C dX5_coefficient_0 rfl ?_
  refine xt_iload_n C dX5_coefficient_1 rfl ?_
  refine xt_iload_n C dX5_coefficient_2 rfl ?_
  refine xt_iload_n C dX5_coefficient_3 rfl ?_
  refine xt_cV C mv_X5_hasPlace lkX5_238 (ct_hasPlace hP9) rfl (by decide) (xt_cl0 _ _) rfl (by decide) rfl (Nat.le_of_ble_eq_true rfl) dX5_coefficient_4 ?_
  refine xt_if_neB (tgt := 20) C dX5_coefficient_7 (by decide) (fun c7 => ?_) (fun c7 => ?_)
  · refine xt_aload_n C dX5_coefficient_20 rfl ?_
    refine xt_get (f := 4) C xt_u5 rfl (by decide) (xt_cl0 _ _) (by decide) lkX5_33 rfl dX5_coefficient_21 ?_
    refine xt_aload_n C dX5_coefficient_24 rfl ?_
    refine xt_get (f := 0) C xt_u5 rfl (by decide) (xt_cl0 _ _) (by decide) lkX5_10 rfl dX5_coefficient_25 ?_
    refine xt_iload_n C dX5_coefficient_28 rfl ?_
    refine xt_cVNpn C mv_X4_load lkX5_170 (ct_load (by exact hP9) ht hk) rfl (by decide) (xt_cl33 _ _) rfl (by decide) rfl (Nat.le_of_ble_eq_true rfl) dX5_coefficient_29 (fun S9 hq9 => ?_)
    obtain ⟨hfr, hTL0⟩ := hq9
    have hTL : xt_TL S9 c r sd pl pb t (S.2.1 2) (S.2.1 3) := hTL0
    refine xt_aload_n C dX5_coefficient_32 rfl ?_
    refine xt_get (f := 4) C xt_u5 rfl (by decide) (xt_cl0 _ _) (by decide) lkX5_33 rfl dX5_coefficient_33 ?_
    refine xt_getN (f := 7) C xt_u4 rfl (by decide) (xt_cl33 _ _) (by decide) lkX5_196 rfl dX5_coefficient_36 ?_
    refine xt_iload_n C dX5_coefficient_39 rfl ?_
    refine xt_iload_n C dX5_coefficient_40 rfl ?_
    refine xt_cS C ms_X5_placeOf lkX5_243 ct_place rfl (by decide) rfl (Nat.le_of_ble_eq_true rfl) dX5_coefficient_41 ?_
    refine xt_cS C ms_X5_at lkX5_145 (ct_at (by decide) (xt_cl35 _) (by decide) hp64 (xt_TL_c hTL _ ⟨by omega, by omega⟩).1) rfl (by decide) rfl (Nat.le_of_ble_eq_true rfl) dX5_coefficient_44 ?_
    refine xt_ofM ?_
    exact xt_iret C dX5_coefficient_47 ⟨by decide, by decide⟩ ⟨rfl, hfr⟩
  · exact absurd ⟨t, ht, rfl, ⟨x, hx, rfl⟩, y, hy, rfl⟩ c7
set_option maxRecDepth 20000 in
set_option maxHeartbeats 2000000 in
theorem ct_coefficient_bad {Q : Option Value → xt_St → Prop} (hst : l.stackTraces = false) {c r sd pl pb : Nat} (hP : xt_Pic S 1 c r sd pl pb) {a x y : Int32} (hb : ¬ (∃ j, j < xt_nt c r sd ∧ a = nI j ∧ xt_pix (xt_gw c sd j) (xt_gh c r sd j) x y)) : xt_CtX E l yX5_coefficient cX5_coefficient 4 (some Jvm.ClassFile.FieldType.int) 7 131 1 6 [.ref (E.1 0), .int a, .int x, .int y] S Q (xt_Ex "java/lang/IndexOutOfBoundsException" S) := by
  refine xt_bodyX (by decide +kernel) (xt_all rfl) (Nat.le_of_ble_eq_true rfl) (fun cx C hl9 hx9 => ?_)
  show xt_X E cx _ 0 0 0 [some (.ref (E.1 0)), some (.int a), some (.int x), some (.int y)] [] S
  refine xt_aload_n C dX5_coefficient_0 rfl ?_
  refine xt_iload_n C dX5_coefficient_1 rfl ?_
  refine xt_iload_n C dX5_coefficient_2 rfl ?_
  refine xt_iload_n C dX5_coefficient_3 rfl ?_
  refine xt_cV C mv_X5_hasPlace lkX5_238 (ct_hasPlace hP) rfl (by decide) (xt_cl0 _ _) rfl (by decide) rfl (Nat.le_of_ble_eq_true rfl) dX5_coefficient_4 ?_
  refine xt_if_neB (tgt := 20) C dX5_coefficient_7 (by decide) (fun c7 => ?_) (fun c7 => ?_)
  · exact absurd c7 hb
  · exact xt_throwS (i := 13) C (by rw [hl9]; exact hst) hx9 xw_134 rfl dX5_coefficient_10 dX5_coefficient_13 dX5_coefficient_14 dX5_coefficient_16 dX5_coefficient_19 rfl ⟨by decide, by decide, by decide, by decide⟩ (by decide) ⟨by decide, by decide⟩ ⟨rfl, rfl⟩
end XC27
