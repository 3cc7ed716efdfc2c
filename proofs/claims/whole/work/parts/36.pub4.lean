/-! THE TILER: band, layerOf, bits -/
section XC28
variable {E : xt_Ev} {l : Launch} {S : xt_St}
set_option maxRecDepth 20000 in
set_option maxHeartbeats 2000000 in
theorem ct_band_ok {QX : String → xt_St → Prop} {c r sd pl pb : Nat} (hP : xt_Pic S 1 c r sd pl pb) {t : Nat} (ht : t < xt_nt c r sd) (hk : ∀ j, j < 256 → S.2.1 3 j = nI 0 ∨ S.2.1 3 j = nI 1) {x y : Nat} (hx : x < xt_gw c sd t) (hy : y < xt_gh c r sd t) : xt_CtX E l yX5_band cX5_band 4 (some Jvm.ClassFile.FieldType.int) 7 131 1 6 [.ref (E.1 0), .int (nI t), .int (nI x), .int (nI y)] S (xt_Ep (some (.int (nI (xt_bd (xt_tD c r sd pl t) (xt_gw c sd t) (xt_gh c r sd t) x y)))) (fun S9 => xt_fr S S9)) QX := by
  refine xt_bodyX (by decide +kernel) (xt_all rfl) (Nat.le_of_ble_eq_true rfl) (fun cx C hl9 hx9 => ?_)
  show xt_X E cx _ 0 0 0 [some (.ref (E.1 0)), some (.int (nI t)), some (.int (nI x)), some (.int (nI y))] [] S
  have hP9 := hP
  obtain ⟨hc, hr, hs, hv, hb, b1, b2, b3, b4, b5, b6, b7⟩ := hP
  have hn := xt_nt_b ⟨b1, b2⟩ ⟨b3, b4⟩ b5
  have hT := xt_tile_b ⟨b1, b2⟩ ⟨b3, b4⟩ b5 ht
  have hw8 : xt_gw c sd t ≤ 8 := by have := hT; omega
  have hh8 : xt_gh c r sd t ≤ 8 := by have := hT; omega
  have hp64 : 8 * y + x < 64 := by omega
  refine xt_aload_n C dX5_band_0 rfl ?_
  refine xt_iload_n C dX5_band_1 rfl ?_
  refine xt_iload_n C dX5_band_2 rfl ?_
  refine xt_iload_n C dX5_band_3 rfl ?_
  refine xt_cV C mv_X5_hasPlace lkX5_238 (ct_hasPlace hP9) rfl (by decide) (xt_cl0 _ _) rfl (by decide) rfl (Nat.le_of_ble_eq_true rfl) dX5_band_4 ?_
  refine xt_if_neB (tgt := 20) C dX5_band_7 (by decide) (fun c7 => ?_) (fun c7 => ?_)
  · refine xt_aload_n C dX5_band_20 rfl ?_
    refine xt_get (f := 4) C xt_u5 rfl (by decide) (xt_cl0 _ _) (by decide) lkX5_33 rfl dX5_band_21 ?_
    refine xt_aload_n C dX5_band_24 rfl ?_
    refine xt_get (f := 0) C xt_u5 rfl (by decide) (xt_cl0 _ _) (by decide) lkX5_10 rfl dX5_band_25 ?_
    refine xt_iload_n C dX5_band_28 rfl ?_
    refine xt_cVNpn C mv_X4_load lkX5_170 (ct_load (by exact hP9) ht hk) rfl (by decide) (xt_cl33 _ _) rfl (by decide) rfl (Nat.le_of_ble_eq_true rfl) dX5_band_29 (fun S9 hq9 => ?_)
    obtain ⟨hfr, hTL0⟩ := hq9
    have hTL : xt_TL S9 c r sd pl pb t (S.2.1 2) (S.2.1 3) := hTL0
    refine xt_aload_n C dX5_band_32 rfl ?_
    refine xt_get (f := 4) C xt_u5 rfl (by decide) (xt_cl0 _ _) (by decide) lkX5_33 rfl dX5_band_33 ?_
    refine xt_getN (f := 8) C xt_u4 rfl (by decide) (xt_cl33 _ _) (by decide) lkX5_246 rfl dX5_band_36 ?_
    refine xt_iload_n C dX5_band_39 rfl ?_
    refine xt_iload_n C dX5_band_40 rfl ?_
    refine xt_cS C ms_X5_placeOf lkX5_243 ct_place rfl (by decide) rfl (Nat.le_of_ble_eq_true rfl) dX5_band_41 ?_
    refine xt_cS C ms_X5_at lkX5_145 (ct_at (by decide) (xt_cl36 _) (by decide) hp64 (hTL.2 y x hy hx).2.2.1) rfl (by decide) rfl (Nat.le_of_ble_eq_true rfl) dX5_band_44 ?_
    refine xt_ofM ?_
    exact xt_iret C dX5_band_47 ⟨by decide, by decide⟩ ⟨rfl, hfr⟩
  · exact absurd ⟨t, ht, rfl, ⟨x, hx, rfl⟩, y, hy, rfl⟩ c7
set_option maxRecDepth 20000 in
set_option maxHeartbeats 2000000 in
theorem ct_band_bad {Q : Option Value → xt_St → Prop} (hst : l.stackTraces = false) {c r sd pl pb : Nat} (hP : xt_Pic S 1 c r sd pl pb) {a x y : Int32} (hb : ¬ (∃ j, j < xt_nt c r sd ∧ a = nI j ∧ xt_pix (xt_gw c sd j) (xt_gh c r sd j) x y)) : xt_CtX E l yX5_band cX5_band 4 (some Jvm.ClassFile.FieldType.int) 7 131 1 6 [.ref (E.1 0), .int a, .int x, .int y] S Q (xt_Ex "java/lang/IndexOutOfBoundsException" S) := by
  refine xt_bodyX (by decide +kernel) (xt_all rfl) (Nat.le_of_ble_eq_true rfl) (fun cx C hl9 hx9 => ?_)
  show xt_X E cx _ 0 0 0 [some (.ref (E.1 0)), some (.int a), some (.int x), some (.int y)] [] S
  refine xt_aload_n C dX5_band_0 rfl ?_
  refine xt_iload_n C dX5_band_1 rfl ?_
  refine xt_iload_n C dX5_band_2 rfl ?_
  refine xt_iload_n C dX5_band_3 rfl ?_
  refine xt_cV C mv_X5_hasPlace lkX5_238 (ct_hasPlace hP) rfl (by decide) (xt_cl0 _ _) rfl (by decide) rfl (Nat.le_of_ble_eq_true rfl) dX5_band_4 ?_
  refine xt_if_neB (tgt := 20) C dX5_band_7 (by decide) (fun c7 => ?_) (fun c7 => ?_)
  · exact absurd c7 hb
  · exact xt_throwS (i := 13) C (by rw [hl9]; exact hst) hx9 xw_134 rfl dX5_band_10 dX5_band_13 dX5_band_14 dX5_band_16 dX5_band_19 rfl ⟨by decide, by decide, by decide, by decide⟩ (by decide) ⟨by decide, by decide⟩ ⟨rfl, rfl⟩
set_option maxRecDepth 20000 in
set_option maxHeartbeats 2000000 in
theorem ct_layerOf_ok {QX : String → xt_St → Prop} {c r sd pl pb : Nat} (hP : xt_Pic S 1 c r sd pl pb) {t : Nat} (ht : t < xt_nt c r sd) (hk : ∀ j, j < 256 → S.2.1 3 j = nI 0 ∨ S.2.1 3 j = nI 1) {x y : Nat} (hx : x < xt_gw c sd t) (hy : y < xt_gh c r sd t) {p : Nat} (hp8 : p ≤ 8) : xt_CtX E l yX5_layerOf cX5_layerOf 5 (some Jvm.ClassFile.FieldType.int) 7 131 1 6 [.ref (E.1 0), .int (nI t), .int (nI x), .int (nI y), .int (nI p)] S (xt_Ep (some (.int (nI (xt_lay (xt_tM c r sd pl t (S.2.1 3) (8 * y + x)) pb p)))) (fun S9 => xt_fr S S9)) QX := by
  refine xt_bodyX (by decide +kernel) (xt_all rfl) (Nat.le_of_ble_eq_true rfl) (fun cx C hl9 hx9 => ?_)
  show xt_X E cx _ 0 0 0 [some (.ref (E.1 0)), some (.int (nI t)), some (.int (nI x)), some (.int (nI y)), some (.int (nI p))] [] S
  have hP9 := hP
  obtain ⟨hc, hr, hs, hv, hb, b1, b2, b3, b4, b5, b6, b7⟩ := hP
  have hn := xt_nt_b ⟨b1, b2⟩ ⟨b3, b4⟩ b5
  have hT := xt_tile_b ⟨b1, b2⟩ ⟨b3, b4⟩ b5 ht
  have hw8 : xt_gw c sd t ≤ 8 := by have := hT; omega
  have hh8 : xt_gh c r sd t ≤ 8 := by have := hT; omega
  have hp64 : 8 * y + x < 64 := by omega
  refine xt_aload_n C dX5_layerOf_0 rfl ?_
  refine xt_iload_n C dX5_layerOf_1 rfl ?_
  refine xt_iload_n C dX5_layerOf_2 rfl ?_
  refine xt_iload_n C dX5_layerOf_3 rfl ?_
  refine xt_cV C mv_X5_hasPlace lkX5_238 (ct_hasPlace hP9) rfl (by decide) (xt_cl0 _ _) rfl (by decide) rfl (Nat.le_of_ble_eq_true rfl) dX5_layerOf_4 ?_
  refine xt_if_neB (tgt := 20) C dX5_layerOf_7 (by decide) (fun c7 => ?_) (fun c7 => ?_)
  · refine xt_iload C dX5_layerOf_20 rfl ?_
    refine xt_iconst (v := nI 0) C dX5_layerOf_22 rfl ?_
    refine xt_bipush (v := nI 8) C dX5_layerOf_23 (by decide) ?_
    refine xt_cS C ms_X5_isBetween lkX5_61 ct_between rfl (by decide) rfl (Nat.le_of_ble_eq_true rfl) dX5_layerOf_25 ?_
    refine xt_if_neB (tgt := 41) C dX5_layerOf_28 (by decide) (fun c28 => ?_) (fun c28 => ?_)
    · refine xt_aload_n C dX5_layerOf_41 rfl ?_
      refine xt_get (f := 4) C xt_u5 rfl (by decide) (xt_cl0 _ _) (by decide) lkX5_33 rfl dX5_layerOf_42 ?_
      refine xt_aload_n C dX5_layerOf_45 rfl ?_
      refine xt_get (f := 0) C xt_u5 rfl (by decide) (xt_cl0 _ _) (by decide) lkX5_10 rfl dX5_layerOf_46 ?_
      refine xt_iload_n C dX5_layerOf_49 rfl ?_
      refine xt_cVNpn C mv_X4_load lkX5_170 (ct_load (by exact hP9) ht hk) rfl (by decide) (xt_cl33 _ _) rfl (by decide) rfl (Nat.le_of_ble_eq_true rfl) dX5_layerOf_50 (fun S9 hq9 => ?_)
      obtain ⟨hfr, hTL0⟩ := hq9
      have hTL : xt_TL S9 c r sd pl pb t (S.2.1 2) (S.2.1 3) := hTL0
      refine xt_aload_n C dX5_layerOf_53 rfl ?_
      refine xt_get (f := 4) C xt_u5 rfl (by decide) (xt_cl0 _ _) (by decide) lkX5_33 rfl dX5_layerOf_54 ?_
      refine xt_iload_n C dX5_layerOf_57 rfl ?_
      refine xt_iload_n C dX5_layerOf_58 rfl ?_
      refine xt_cS C ms_X5_placeOf lkX5_243 ct_place rfl (by decide) rfl (Nat.le_of_ble_eq_true rfl) dX5_layerOf_59 ?_
      refine xt_iload C dX5_layerOf_62 rfl ?_
      refine xt_cVN C mv_X4_layerAt lkX5_251 (ct_layerAt (by exact xt_TL_n hTL) hp64 (xt_TL_m hTL y x hy hx).1 (xt_TL_m hTL y x hy hx).2 hp8) rfl (by decide) (xt_cl33 _ _) rfl (by decide) rfl (Nat.le_of_ble_eq_true rfl) dX5_layerOf_64 ?_
      refine xt_ofM ?_
      exact xt_iret C dX5_layerOf_67 ⟨by decide, by decide⟩ ⟨rfl, hfr⟩
    · exact absurd ⟨nI_pos' (by omega), nI_le hp8 (by omega)⟩ c28
  · exact absurd ⟨t, ht, rfl, ⟨x, hx, rfl⟩, y, hy, rfl⟩ c7
set_option maxRecDepth 20000 in
set_option maxHeartbeats 2000000 in
theorem ct_layerOf_bad1 {Q : Option Value → xt_St → Prop} (hst : l.stackTraces = false) {c r sd pl pb : Nat} (hP : xt_Pic S 1 c r sd pl pb) {a x y p : Int32} (hb : ¬ (∃ j, j < xt_nt c r sd ∧ a = nI j ∧ xt_pix (xt_gw c sd j) (xt_gh c r sd j) x y)) : xt_CtX E l yX5_layerOf cX5_layerOf 5 (some Jvm.ClassFile.FieldType.int) 7 131 1 6 [.ref (E.1 0), .int a, .int x, .int y, .int p] S Q (xt_Ex "java/lang/IndexOutOfBoundsException" S) := by
  refine xt_bodyX (by decide +kernel) (xt_all rfl) (Nat.le_of_ble_eq_true rfl) (fun cx C hl9 hx9 => ?_)
  show xt_X E cx _ 0 0 0 [some (.ref (E.1 0)), some (.int a), some (.int x), some (.int y), some (.int p)] [] S
  refine xt_aload_n C dX5_layerOf_0 rfl ?_
  refine xt_iload_n C dX5_layerOf_1 rfl ?_
  refine xt_iload_n C dX5_layerOf_2 rfl ?_
  refine xt_iload_n C dX5_layerOf_3 rfl ?_
  refine xt_cV C mv_X5_hasPlace lkX5_238 (ct_hasPlace hP) rfl (by decide) (xt_cl0 _ _) rfl (by decide) rfl (Nat.le_of_ble_eq_true rfl) dX5_layerOf_4 ?_
  refine xt_if_neB (tgt := 20) C dX5_layerOf_7 (by decide) (fun c7 => ?_) (fun c7 => ?_)
  · exact absurd c7 hb
  · exact xt_throwS (i := 13) C (by rw [hl9]; exact hst) hx9 xw_134 rfl dX5_layerOf_10 dX5_layerOf_13 dX5_layerOf_14 dX5_layerOf_16 dX5_layerOf_19 rfl ⟨by decide, by decide, by decide, by decide⟩ (by decide) ⟨by decide, by decide⟩ ⟨rfl, rfl⟩
set_option maxRecDepth 20000 in
set_option maxHeartbeats 2000000 in
theorem ct_layerOf_bad2 {Q : Option Value → xt_St → Prop} (hst : l.stackTraces = false) {c r sd pl pb : Nat} (hP : xt_Pic S 1 c r sd pl pb) {a x y p : Int32} (hb : ∃ j, j < xt_nt c r sd ∧ a = nI j ∧ xt_pix (xt_gw c sd j) (xt_gh c r sd j) x y) (hb2 : ¬ (nI 0 ≤ p ∧ p ≤ nI 8)) : xt_CtX E l yX5_layerOf cX5_layerOf 5 (some Jvm.ClassFile.FieldType.int) 7 131 1 6 [.ref (E.1 0), .int a, .int x, .int y, .int p] S Q (xt_Ex "java/lang/IllegalArgumentException" S) := by
  refine xt_bodyX (by decide +kernel) (xt_all rfl) (Nat.le_of_ble_eq_true rfl) (fun cx C hl9 hx9 => ?_)
  show xt_X E cx _ 0 0 0 [some (.ref (E.1 0)), some (.int a), some (.int x), some (.int y), some (.int p)] [] S
  refine xt_aload_n C dX5_layerOf_0 rfl ?_
  refine xt_iload_n C dX5_layerOf_1 rfl ?_
  refine xt_iload_n C dX5_layerOf_2 rfl ?_
  refine xt_iload_n C dX5_layerOf_3 rfl ?_
  refine xt_cV C mv_X5_hasPlace lkX5_238 (ct_hasPlace hP) rfl (by decide) (xt_cl0 _ _) rfl (by decide) rfl (Nat.le_of_ble_eq_true rfl) dX5_layerOf_4 ?_
  refine xt_if_neB (tgt := 20) C dX5_layerOf_7 (by decide) (fun c7 => ?_) (fun c7 => ?_)
  · refine xt_iload C dX5_layerOf_20 rfl ?_
    refine xt_iconst (v := nI 0) C dX5_layerOf_22 rfl ?_
    refine xt_bipush (v := nI 8) C dX5_layerOf_23 (by decide) ?_
    refine xt_cS C ms_X5_isBetween lkX5_61 ct_between rfl (by decide) rfl (Nat.le_of_ble_eq_true rfl) dX5_layerOf_25 ?_
    refine xt_if_neB (tgt := 41) C dX5_layerOf_28 (by decide) (fun c28 => ?_) (fun c28 => ?_)
    · exact absurd c28 hb2
    · exact xt_throwS (i := 14) C (by rw [hl9]; exact hst) hx9 xw_65 rfl dX5_layerOf_31 dX5_layerOf_34 dX5_layerOf_35 dX5_layerOf_37 dX5_layerOf_40 rfl ⟨by decide, by decide, by decide, by decide⟩ (by decide) ⟨by decide, by decide⟩ ⟨rfl, rfl⟩
  · exact absurd hb c7
set_option maxRecDepth 20000 in
set_option maxHeartbeats 2000000 in
theorem ct_bits_ok {QX : String → xt_St → Prop} {c r sd pl pb : Nat} (hP : xt_Pic S 1 c r sd pl pb) {t : Nat} (ht : t < xt_nt c r sd) (hk : ∀ j, j < 256 → S.2.1 3 j = nI 0 ∨ S.2.1 3 j = nI 1) {ly : Int32} (hly : -1 ≤ ly ∧ ly ≤ nI 8) : xt_CtX E l yX5_bits cX5_bits 3 (some Jvm.ClassFile.FieldType.int) 7 131 1 6 [.ref (E.1 0), .int (nI t), .int ly] S (xt_Ep (some (.int (xt_tB c r sd pl pb t ly (S.2.1 2) (S.2.1 3)))) (fun S9 => xt_fr S S9)) QX := by
  refine xt_bodyX (by decide +kernel) (xt_all rfl) (Nat.le_of_ble_eq_true rfl) (fun cx C hl9 hx9 => ?_)
  show xt_X E cx _ 0 0 0 [some (.ref (E.1 0)), some (.int (nI t)), some (.int ly)] [] S
  have hP9 := hP
  obtain ⟨hc, hr, hs, hv, hb, b1, b2, b3, b4, b5, b6, b7⟩ := hP
  have hn := xt_nt_b ⟨b1, b2⟩ ⟨b3, b4⟩ b5
  have hT := xt_tile_b ⟨b1, b2⟩ ⟨b3, b4⟩ b5 ht
  refine xt_aload_n C dX5_bits_0 rfl ?_
  refine xt_get (f := 0) C xt_u5 rfl (by decide) (xt_cl0 _ _) (by decide) lkX5_10 rfl dX5_bits_1 ?_
  refine xt_iload_n C dX5_bits_4 rfl ?_
  refine xt_cVN C mv_X1_hasTile lkX5_164 (ct_hasTile hP9) rfl (by decide) (xt_cl1 _ _) rfl (by decide) rfl (Nat.le_of_ble_eq_true rfl) dX5_bits_5 ?_
  refine xt_if_neB (tgt := 21) C dX5_bits_8 (by decide) (fun c8 => ?_) (fun c8 => ?_)
  · refine xt_iload_n C dX5_bits_21 rfl ?_
    refine xt_iconst (v := -1) C dX5_bits_22 rfl ?_
    refine xt_bipush (v := nI 8) C dX5_bits_23 (by decide) ?_
    refine xt_cS C ms_X5_isBetween lkX5_61 ct_between rfl (by decide) rfl (Nat.le_of_ble_eq_true rfl) dX5_bits_25 ?_
    refine xt_if_neB (tgt := 41) C dX5_bits_28 (by decide) (fun c28 => ?_) (fun c28 => ?_)
    · refine xt_aload_n C dX5_bits_41 rfl ?_
      refine xt_get (f := 4) C xt_u5 rfl (by decide) (xt_cl0 _ _) (by decide) lkX5_33 rfl dX5_bits_42 ?_
      refine xt_aload_n C dX5_bits_45 rfl ?_
      refine xt_get (f := 0) C xt_u5 rfl (by decide) (xt_cl0 _ _) (by decide) lkX5_10 rfl dX5_bits_46 ?_
      refine xt_iload_n C dX5_bits_49 rfl ?_
      refine xt_cVNpn C mv_X4_load lkX5_170 (ct_load (by exact hP9) ht hk) rfl (by decide) (xt_cl33 _ _) rfl (by decide) rfl (Nat.le_of_ble_eq_true rfl) dX5_bits_50 (fun S9 hq9 => ?_)
      obtain ⟨hfr, hTL0⟩ := hq9
      have hTL : xt_TL S9 c r sd pl pb t (S.2.1 2) (S.2.1 3) := hTL0
      refine xt_aload_n C dX5_bits_53 rfl ?_
      refine xt_get (f := 4) C xt_u5 rfl (by decide) (xt_cl0 _ _) (by decide) lkX5_33 rfl dX5_bits_54 ?_
      refine xt_iload_n C dX5_bits_57 rfl ?_
      refine xt_cVN C mv_X4_bitTotal lkX5_256 (ct_bitTotal (by exact xt_TL_n hTL) (by exact xt_TL_m hTL)) rfl (by decide) (xt_cl33 _ _) rfl (by decide) rfl (Nat.le_of_ble_eq_true rfl) dX5_bits_58 ?_
      rw [xt_TL_B hTL]
      refine xt_ofM ?_
      exact xt_iret C dX5_bits_61 ⟨by decide, by decide⟩ ⟨rfl, hfr⟩
    · exact absurd hly c28
  · exact absurd ⟨t, ht, rfl⟩ c8
set_option maxRecDepth 20000 in
set_option maxHeartbeats 2000000 in
theorem ct_bits_bad1 {Q : Option Value → xt_St → Prop} (hst : l.stackTraces = false) {c r sd pl pb : Nat} (hP : xt_Pic S 1 c r sd pl pb) {a ly : Int32} (hb : ¬ ∃ j, j < xt_nt c r sd ∧ a = nI j) : xt_CtX E l yX5_bits cX5_bits 3 (some Jvm.ClassFile.FieldType.int) 7 131 1 6 [.ref (E.1 0), .int a, .int ly] S Q (xt_Ex "java/lang/IndexOutOfBoundsException" S) := by
  refine xt_bodyX (by decide +kernel) (xt_all rfl) (Nat.le_of_ble_eq_true rfl) (fun cx C hl9 hx9 => ?_)
  show xt_X E cx _ 0 0 0 [some (.ref (E.1 0)), some (.int a), some (.int ly)] [] S
  refine xt_aload_n C dX5_bits_0 rfl ?_
  refine xt_get (f := 0) C xt_u5 rfl (by decide) (xt_cl0 _ _) (by decide) lkX5_10 rfl dX5_bits_1 ?_
  refine xt_iload_n C dX5_bits_4 rfl ?_
  refine xt_cVN C mv_X1_hasTile lkX5_164 (ct_hasTile hP) rfl (by decide) (xt_cl1 _ _) rfl (by decide) rfl (Nat.le_of_ble_eq_true rfl) dX5_bits_5 ?_
  refine xt_if_neB (tgt := 21) C dX5_bits_8 (by decide) (fun c8 => ?_) (fun c8 => ?_)
  · exact absurd c8 hb
  · exact xt_throwS (i := 7) C (by rw [hl9]; exact hst) hx9 xw_134 rfl dX5_bits_11 dX5_bits_14 dX5_bits_15 dX5_bits_17 dX5_bits_20 rfl ⟨by decide, by decide, by decide, by decide⟩ (by decide) ⟨by decide, by decide⟩ ⟨rfl, rfl⟩
set_option maxRecDepth 20000 in
set_option maxHeartbeats 2000000 in
theorem ct_bits_bad2 {Q : Option Value → xt_St → Prop} (hst : l.stackTraces = false) {c r sd pl pb : Nat} (hP : xt_Pic S 1 c r sd pl pb) {a ly : Int32} (hb : ∃ j, j < xt_nt c r sd ∧ a = nI j) (hly : ¬ (-1 ≤ ly ∧ ly ≤ nI 8)) : xt_CtX E l yX5_bits cX5_bits 3 (some Jvm.ClassFile.FieldType.int) 7 131 1 6 [.ref (E.1 0), .int a, .int ly] S Q (xt_Ex "java/lang/IllegalArgumentException" S) := by
  refine xt_bodyX (by decide +kernel) (xt_all rfl) (Nat.le_of_ble_eq_true rfl) (fun cx C hl9 hx9 => ?_)
  show xt_X E cx _ 0 0 0 [some (.ref (E.1 0)), some (.int a), some (.int ly)] [] S
  refine xt_aload_n C dX5_bits_0 rfl ?_
  refine xt_get (f := 0) C xt_u5 rfl (by decide) (xt_cl0 _ _) (by decide) lkX5_10 rfl dX5_bits_1 ?_
  refine xt_iload_n C dX5_bits_4 rfl ?_
  refine xt_cVN C mv_X1_hasTile lkX5_164 (ct_hasTile hP) rfl (by decide) (xt_cl1 _ _) rfl (by decide) rfl (Nat.le_of_ble_eq_true rfl) dX5_bits_5 ?_
  refine xt_if_neB (tgt := 21) C dX5_bits_8 (by decide) (fun c8 => ?_) (fun c8 => ?_)
  · refine xt_iload_n C dX5_bits_21 rfl ?_
    refine xt_iconst (v := -1) C dX5_bits_22 rfl ?_
    refine xt_bipush (v := nI 8) C dX5_bits_23 (by decide) ?_
    refine xt_cS C ms_X5_isBetween lkX5_61 ct_between rfl (by decide) rfl (Nat.le_of_ble_eq_true rfl) dX5_bits_25 ?_
    refine xt_if_neB (tgt := 41) C dX5_bits_28 (by decide) (fun c28 => ?_) (fun c28 => ?_)
    · exact absurd c28 hly
    · exact xt_throwS (i := 15) C (by rw [hl9]; exact hst) hx9 xw_65 rfl dX5_bits_31 dX5_bits_34 dX5_bits_35 dX5_bits_37 dX5_bits_40 rfl ⟨by decide, by decide, by decide, by decide⟩ (by decide) ⟨by decide, by decide⟩ ⟨rfl, rfl⟩
  · exact absurd hb c8
end XC28
