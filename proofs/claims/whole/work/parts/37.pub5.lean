/-! THE TILER: number, tile, faultPosition, refusal, undo, save, restore, feed, planned -/
section XC29
variable {E : xt_Ev} {l : Launch} {S : xt_St}
/-- what number tells -/
def xt_num (S : xt_St) (c r sd lv bo : Nat) : Nat → Int32
  | 0 => nI c
  | 1 => nI r
  | 2 => nI sd
  | 3 => nI lv
  | 4 => nI bo
  | 5 => nI (xt_nt c r sd)
  | 6 => xt_it (fun i s => s + S.2.1 3 i) (c * r) 0
  | 7 => xt_it (fun i s => s + S.2.1 2 i) (c * r) 0
  | 8 => S.1 7 2
  | _ => S.1 46 1
/-- what tile tells -/
noncomputable def xt_til (c r sd pl t : Nat) (v k : Nat → Int32) : Nat → Int32
  | 0 => nI (xt_gl c sd t)
  | 1 => nI (xt_gt c sd t)
  | 2 => nI (xt_gw c sd t)
  | 3 => nI (xt_gh c r sd t)
  | 4 => nI (xt_tD c r sd pl t)
  | 5 => xt_sum2 k c (xt_gl c sd t) (xt_gt c sd t) (xt_gw c sd t) (xt_gh c r sd t)
  | 6 => xt_N2 (fun x y => ¬ nI (xt_tM c r sd pl t k (8 * y + x)) = 0) (xt_gw c sd t) (xt_gh c r sd t)
  | 7 => xt_N2 (fun x y => ¬ xt_tC c r sd pl t v (8 * y + x) = 0) (xt_gw c sd t) (xt_gh c r sd t)
  | _ => xt_sum2 v c (xt_gl c sd t) (xt_gt c sd t) (xt_gw c sd t) (xt_gh c r sd t)
set_option maxRecDepth 20000 in
set_option maxHeartbeats 2000000 in
theorem ct_number_ok {QX : String → xt_St → Prop} {c r sd lv bo : Nat} (hP : xt_Pic S 1 c r sd lv bo) {j : Nat} (hj : j < 10) : xt_CtX E l yX5_number cX5_number 2 (some Jvm.ClassFile.FieldType.int) 7 110 1 6 [.ref (E.1 0), .int (nI j)] S (xt_Eq (some (.int (xt_num S c r sd lv bo j))) S) QX := by
  refine xt_bodyX (by decide +kernel) (xt_all rfl) (Nat.le_of_ble_eq_true rfl) (fun cx C hl9 hx9 => ?_)
  show xt_X E cx _ 0 0 0 [some (.ref (E.1 0)), some (.int (nI j))] [] S
  have hP9 := hP
  obtain ⟨hc, hr, hs, hv, hb, b1, b2, b3, b4, b5, b6, b7⟩ := hP
  match j, hj with
  | 0, _ =>
    refine xt_iload_n C dX5_number_0 rfl ?_
    refine xt_tabIn (tgt := 56) C dX5_number_1 (by decide +kernel) (by decide +kernel) rfl (by decide) ?_
    refine xt_aload_n C dX5_number_56 rfl ?_
    refine xt_get (f := 0) C xt_u5 rfl (by decide) (xt_cl0 _ _) (by decide) lkX5_10 rfl dX5_number_57 ?_
    refine xt_getN (f := 0) C xt_u1 rfl (by decide) (xt_cl1 _ _) (by decide) lkX5_97 (xt_vI hc) dX5_number_60 ?_
    refine xt_ofM ?_
    exact xt_iret C dX5_number_63 ⟨by decide, by decide⟩ ⟨rfl, rfl⟩
  | 1, _ =>
    refine xt_iload_n C dX5_number_0 rfl ?_
    refine xt_tabIn (tgt := 64) C dX5_number_1 (by decide +kernel) (by decide +kernel) rfl (by decide) ?_
    refine xt_aload_n C dX5_number_64 rfl ?_
    refine xt_get (f := 0) C xt_u5 rfl (by decide) (xt_cl0 _ _) (by decide) lkX5_10 rfl dX5_number_65 ?_
    refine xt_getN (f := 1) C xt_u1 rfl (by decide) (xt_cl1 _ _) (by decide) lkX5_100 (xt_vI hr) dX5_number_68 ?_
    refine xt_ofM ?_
    exact xt_iret C dX5_number_71 ⟨by decide, by decide⟩ ⟨rfl, rfl⟩
  | 2, _ =>
    refine xt_iload_n C dX5_number_0 rfl ?_
    refine xt_tabIn (tgt := 72) C dX5_number_1 (by decide +kernel) (by decide +kernel) rfl (by decide) ?_
    refine xt_aload_n C dX5_number_72 rfl ?_
    refine xt_get (f := 0) C xt_u5 rfl (by decide) (xt_cl0 _ _) (by decide) lkX5_10 rfl dX5_number_73 ?_
    refine xt_getN (f := 2) C xt_u1 rfl (by decide) (xt_cl1 _ _) (by decide) lkX5_103 (xt_vI hs) dX5_number_76 ?_
    refine xt_ofM ?_
    exact xt_iret C dX5_number_79 ⟨by decide, by decide⟩ ⟨rfl, rfl⟩
  | 3, _ =>
    refine xt_iload_n C dX5_number_0 rfl ?_
    refine xt_tabIn (tgt := 80) C dX5_number_1 (by decide +kernel) (by decide +kernel) rfl (by decide) ?_
    refine xt_aload_n C dX5_number_80 rfl ?_
    refine xt_get (f := 0) C xt_u5 rfl (by decide) (xt_cl0 _ _) (by decide) lkX5_10 rfl dX5_number_81 ?_
    refine xt_getN (f := 3) C xt_u1 rfl (by decide) (xt_cl1 _ _) (by decide) lkX5_106 (xt_vI hv) dX5_number_84 ?_
    refine xt_ofM ?_
    exact xt_iret C dX5_number_87 ⟨by decide, by decide⟩ ⟨rfl, rfl⟩
  | 4, _ =>
    refine xt_iload_n C dX5_number_0 rfl ?_
    refine xt_tabIn (tgt := 88) C dX5_number_1 (by decide +kernel) (by decide +kernel) rfl (by decide) ?_
    refine xt_aload_n C dX5_number_88 rfl ?_
    refine xt_get (f := 0) C xt_u5 rfl (by decide) (xt_cl0 _ _) (by decide) lkX5_10 rfl dX5_number_89 ?_
    refine xt_getN (f := 4) C xt_u1 rfl (by decide) (xt_cl1 _ _) (by decide) lkX5_109 (xt_vI hb) dX5_number_92 ?_
    refine xt_ofM ?_
    exact xt_iret C dX5_number_95 ⟨by decide, by decide⟩ ⟨rfl, rfl⟩
  | 5, _ =>
    refine xt_iload_n C dX5_number_0 rfl ?_
    refine xt_tabIn (tgt := 96) C dX5_number_1 (by decide +kernel) (by decide +kernel) rfl (by decide) ?_
    refine xt_aload_n C dX5_number_96 rfl ?_
    refine xt_get (f := 0) C xt_u5 rfl (by decide) (xt_cl0 _ _) (by decide) lkX5_10 rfl dX5_number_97 ?_
    refine xt_cVN C mv_X1_tileTotal lkX5_80 (ct_total hP9) rfl (by decide) (xt_cl1 _ _) rfl (by decide) rfl (Nat.le_of_ble_eq_true rfl) dX5_number_100 ?_
    refine xt_ofM ?_
    exact xt_iret C dX5_number_103 ⟨by decide, by decide⟩ ⟨rfl, rfl⟩
  | 6, _ =>
    refine xt_iload_n C dX5_number_0 rfl ?_
    refine xt_tabIn (tgt := 104) C dX5_number_1 (by decide +kernel) (by decide +kernel) rfl (by decide) ?_
    refine xt_aload_n C dX5_number_104 rfl ?_
    refine xt_get (f := 0) C xt_u5 rfl (by decide) (xt_cl0 _ _) (by decide) lkX5_10 rfl dX5_number_105 ?_
    refine xt_aload_n C dX5_number_108 rfl ?_
    refine xt_get (f := 0) C xt_u5 rfl (by decide) (xt_cl0 _ _) (by decide) lkX5_10 rfl dX5_number_109 ?_
    refine xt_getN (f := 6) C xt_u1 rfl (by decide) (xt_cl1 _ _) (by decide) lkX5_112 rfl dX5_number_112 ?_
    refine xt_cVN C mv_X1_total lkX5_116 (ct_sum hP9 (by decide) (xt_cl3 _)) rfl (by decide) (xt_cl1 _ _) rfl (by decide) rfl (Nat.le_of_ble_eq_true rfl) dX5_number_115 ?_
    refine xt_ofM ?_
    exact xt_iret C dX5_number_118 ⟨by decide, by decide⟩ ⟨rfl, rfl⟩
  | 7, _ =>
    refine xt_iload_n C dX5_number_0 rfl ?_
    refine xt_tabIn (tgt := 119) C dX5_number_1 (by decide +kernel) (by decide +kernel) rfl (by decide) ?_
    refine xt_aload_n C dX5_number_119 rfl ?_
    refine xt_get (f := 0) C xt_u5 rfl (by decide) (xt_cl0 _ _) (by decide) lkX5_10 rfl dX5_number_120 ?_
    refine xt_aload_n C dX5_number_123 rfl ?_
    refine xt_get (f := 0) C xt_u5 rfl (by decide) (xt_cl0 _ _) (by decide) lkX5_10 rfl dX5_number_124 ?_
    refine xt_getN (f := 5) C xt_u1 rfl (by decide) (xt_cl1 _ _) (by decide) lkX5_120 rfl dX5_number_127 ?_
    refine xt_cVN C mv_X1_total lkX5_116 (ct_sum hP9 (by decide) (xt_cl2 _)) rfl (by decide) (xt_cl1 _ _) rfl (by decide) rfl (Nat.le_of_ble_eq_true rfl) dX5_number_130 ?_
    refine xt_ofM ?_
    exact xt_iret C dX5_number_133 ⟨by decide, by decide⟩ ⟨rfl, rfl⟩
  | 8, _ =>
    refine xt_iload_n C dX5_number_0 rfl ?_
    refine xt_tabIn (tgt := 134) C dX5_number_1 (by decide +kernel) (by decide +kernel) rfl (by decide) ?_
    refine xt_aload_n C dX5_number_134 rfl ?_
    refine xt_get (f := 3) C xt_u5 rfl (by decide) (xt_cl0 _ _) (by decide) lkX5_26 rfl dX5_number_135 ?_
    refine xt_getN (f := 2) C xt_u0 rfl (by decide) (xt_cl7 _ _) (by decide) lkX5_123 rfl dX5_number_138 ?_
    refine xt_ofM ?_
    exact xt_iret C dX5_number_141 ⟨by decide, by decide⟩ ⟨rfl, rfl⟩
  | 9, _ =>
    refine xt_iload_n C dX5_number_0 rfl ?_
    refine xt_tabIn (tgt := 142) C dX5_number_1 (by decide +kernel) (by decide +kernel) rfl (by decide) ?_
    refine xt_aload_n C dX5_number_142 rfl ?_
    refine xt_get (f := 6) C xt_u5 rfl (by decide) (xt_cl0 _ _) (by decide) lkX5_47 rfl dX5_number_143 ?_
    refine xt_getN (f := 1) C xt_u3 rfl (by decide) (xt_cl46 _ _) (by decide) lkX5_126 rfl dX5_number_146 ?_
    refine xt_ofM ?_
    exact xt_iret C dX5_number_149 ⟨by decide, by decide⟩ ⟨rfl, rfl⟩
set_option maxRecDepth 20000 in
set_option maxHeartbeats 2000000 in
theorem ct_number_bad {Q : Option Value → xt_St → Prop} (hst : l.stackTraces = false) {a : Int32} (hj : a.toInt < 0 ∨ 9 < a.toInt) : xt_CtX E l yX5_number cX5_number 2 (some Jvm.ClassFile.FieldType.int) 7 110 1 6 [.ref (E.1 0), .int a] S Q (xt_Ex "java/lang/IllegalArgumentException" S) := by
  refine xt_bodyX (by decide +kernel) (xt_all rfl) (Nat.le_of_ble_eq_true rfl) (fun cx C hl9 hx9 => ?_)
  show xt_X E cx _ 0 0 0 [some (.ref (E.1 0)), some (.int a)] [] S
  refine xt_iload_n C dX5_number_0 rfl ?_
  refine xt_tabOut (tgt := 150) C dX5_number_1 hj (by decide) ?_
  exact xt_throwS (i := 2) C (by rw [hl9]; exact hst) hx9 xw_65 rfl dX5_number_150 dX5_number_153 dX5_number_154 dX5_number_156 dX5_number_159 rfl ⟨by decide, by decide, by decide, by decide⟩ (by decide) ⟨by decide, by decide⟩ ⟨rfl, rfl⟩
set_option maxRecDepth 20000 in
set_option maxHeartbeats 2000000 in
theorem ct_tile_ok {QX : String → xt_St → Prop} {c r sd pl pb : Nat} (hP : xt_Pic S 1 c r sd pl pb) {t : Nat} (ht : t < xt_nt c r sd) (hk : ∀ j, j < 256 → S.2.1 3 j = nI 0 ∨ S.2.1 3 j = nI 1) {j : Nat} (hj : j < 9) : xt_CtX E l yX5_tile cX5_tile 3 (some Jvm.ClassFile.FieldType.int) 7 131 1 6 [.ref (E.1 0), .int (nI t), .int (nI j)] S (xt_Ep (some (.int (xt_til c r sd pl t (S.2.1 2) (S.2.1 3) j))) (fun S9 => xt_fr S S9)) QX := by
  refine xt_bodyX (by decide +kernel) (xt_all rfl) (Nat.le_of_ble_eq_true rfl) (fun cx C hl9 hx9 => ?_)
  show xt_X E cx _ 0 0 0 [some (.ref (E.1 0)), some (.int (nI t)), some (.int (nI j))] [] S
  have hP9 := hP
  obtain ⟨hc, hr, hs, hv, hb, b1, b2, b3, b4, b5, b6, b7⟩ := hP
  have hn := xt_nt_b ⟨b1, b2⟩ ⟨b3, b4⟩ b5
  have hT := xt_tile_b ⟨b1, b2⟩ ⟨b3, b4⟩ b5 ht
  match j, hj with
  | 0, _ =>
    refine xt_aload_n C dX5_tile_0 rfl ?_
    refine xt_get (f := 0) C xt_u5 rfl (by decide) (xt_cl0 _ _) (by decide) lkX5_10 rfl dX5_tile_1 ?_
    refine xt_iload_n C dX5_tile_4 rfl ?_
    refine xt_cVN C mv_X1_hasTile lkX5_164 (ct_hasTile hP9) rfl (by decide) (xt_cl1 _ _) rfl (by decide) rfl (Nat.le_of_ble_eq_true rfl) dX5_tile_5 ?_
    refine xt_if_neB (tgt := 21) C dX5_tile_8 (by decide) (fun c8 => ?_) (fun c8 => ?_)
    · refine xt_aload_n C dX5_tile_21 rfl ?_
      refine xt_get (f := 4) C xt_u5 rfl (by decide) (xt_cl0 _ _) (by decide) lkX5_33 rfl dX5_tile_22 ?_
      refine xt_aload_n C dX5_tile_25 rfl ?_
      refine xt_get (f := 0) C xt_u5 rfl (by decide) (xt_cl0 _ _) (by decide) lkX5_10 rfl dX5_tile_26 ?_
      refine xt_iload_n C dX5_tile_29 rfl ?_
      refine xt_cVNpn C mv_X4_load lkX5_170 (ct_load (by exact hP9) ht hk) rfl (by decide) (xt_cl33 _ _) rfl (by decide) rfl (Nat.le_of_ble_eq_true rfl) dX5_tile_30 (fun S9 hq9 => ?_)
      obtain ⟨hfr, hTL0⟩ := hq9
      have hTL : xt_TL S9 c r sd pl pb t (S.2.1 2) (S.2.1 3) := hTL0
      obtain ⟨t0, t1, t2, t3, t4, t5, t6⟩ := xt_TL_n hTL
      have hP8 := xt_fr_Pic hfr hP9
      have hk3 := hfr.2.1 3 (Or.inl (by decide))
      have hk2 := hfr.2.1 2 (Or.inl (by decide))
      refine xt_iload_n C dX5_tile_33 rfl ?_
      refine xt_tabIn (tgt := 84) C dX5_tile_34 (by decide +kernel) (by decide +kernel) rfl (by decide) ?_
      refine xt_aload_n C dX5_tile_84 rfl ?_
      refine xt_get (f := 4) C xt_u5 rfl (by decide) (xt_cl0 _ _) (by decide) lkX5_33 rfl dX5_tile_85 ?_
      refine xt_getN (f := 0) C xt_u4 rfl (by decide) (xt_cl33 _ _) (by decide) lkX5_174 (xt_vI t0) dX5_tile_88 ?_
      refine xt_ofM ?_
      exact xt_iret C dX5_tile_91 ⟨by decide, by decide⟩ ⟨rfl, hfr⟩
    · exact absurd ⟨t, ht, rfl⟩ c8
  | 1, _ =>
    refine xt_aload_n C dX5_tile_0 rfl ?_
    refine xt_get (f := 0) C xt_u5 rfl (by decide) (xt_cl0 _ _) (by decide) lkX5_10 rfl dX5_tile_1 ?_
    refine xt_iload_n C dX5_tile_4 rfl ?_
    refine xt_cVN C mv_X1_hasTile lkX5_164 (ct_hasTile hP9) rfl (by decide) (xt_cl1 _ _) rfl (by decide) rfl (Nat.le_of_ble_eq_true rfl) dX5_tile_5 ?_
    refine xt_if_neB (tgt := 21) C dX5_tile_8 (by decide) (fun c8 => ?_) (fun c8 => ?_)
    · refine xt_aload_n C dX5_tile_21 rfl ?_
      refine xt_get (f := 4) C xt_u5 rfl (by decide) (xt_cl0 _ _) (by decide) lkX5_33 rfl dX5_tile_22 ?_
      refine xt_aload_n C dX5_tile_25 rfl ?_
      refine xt_get (f := 0) C xt_u5 rfl (by decide) (xt_cl0 _ _) (by decide) lkX5_10 rfl dX5_tile_26 ?_
      refine xt_iload_n C dX5_tile_29 rfl ?_
      refine xt_cVNpn C mv_X4_load lkX5_170 (ct_load (by exact hP9) ht hk) rfl (by decide) (xt_cl33 _ _) rfl (by decide) rfl (Nat.le_of_ble_eq_true rfl) dX5_tile_30 (fun S9 hq9 => ?_)
      obtain ⟨hfr, hTL0⟩ := hq9
      have hTL : xt_TL S9 c r sd pl pb t (S.2.1 2) (S.2.1 3) := hTL0
      obtain ⟨t0, t1, t2, t3, t4, t5, t6⟩ := xt_TL_n hTL
      have hP8 := xt_fr_Pic hfr hP9
      have hk3 := hfr.2.1 3 (Or.inl (by decide))
      have hk2 := hfr.2.1 2 (Or.inl (by decide))
      refine xt_iload_n C dX5_tile_33 rfl ?_
      refine xt_tabIn (tgt := 92) C dX5_tile_34 (by decide +kernel) (by decide +kernel) rfl (by decide) ?_
      refine xt_aload_n C dX5_tile_92 rfl ?_
      refine xt_get (f := 4) C xt_u5 rfl (by decide) (xt_cl0 _ _) (by decide) lkX5_33 rfl dX5_tile_93 ?_
      refine xt_getN (f := 1) C xt_u4 rfl (by decide) (xt_cl33 _ _) (by decide) lkX5_177 (xt_vI t1) dX5_tile_96 ?_
      refine xt_ofM ?_
      exact xt_iret C dX5_tile_99 ⟨by decide, by decide⟩ ⟨rfl, hfr⟩
    · exact absurd ⟨t, ht, rfl⟩ c8
  | 2, _ =>
    refine xt_aload_n C dX5_tile_0 rfl ?_
    refine xt_get (f := 0) C xt_u5 rfl (by decide) (xt_cl0 _ _) (by decide) lkX5_10 rfl dX5_tile_1 ?_
    refine xt_iload_n C dX5_tile_4 rfl ?_
    refine xt_cVN C mv_X1_hasTile lkX5_164 (ct_hasTile hP9) rfl (by decide) (xt_cl1 _ _) rfl (by decide) rfl (Nat.le_of_ble_eq_true rfl) dX5_tile_5 ?_
    refine xt_if_neB (tgt := 21) C dX5_tile_8 (by decide) (fun c8 => ?_) (fun c8 => ?_)
    · refine xt_aload_n C dX5_tile_21 rfl ?_
      refine xt_get (f := 4) C xt_u5 rfl (by decide) (xt_cl0 _ _) (by decide) lkX5_33 rfl dX5_tile_22 ?_
      refine xt_aload_n C dX5_tile_25 rfl ?_
      refine xt_get (f := 0) C xt_u5 rfl (by decide) (xt_cl0 _ _) (by decide) lkX5_10 rfl dX5_tile_26 ?_
      refine xt_iload_n C dX5_tile_29 rfl ?_
      refine xt_cVNpn C mv_X4_load lkX5_170 (ct_load (by exact hP9) ht hk) rfl (by decide) (xt_cl33 _ _) rfl (by decide) rfl (Nat.le_of_ble_eq_true rfl) dX5_tile_30 (fun S9 hq9 => ?_)
      obtain ⟨hfr, hTL0⟩ := hq9
      have hTL : xt_TL S9 c r sd pl pb t (S.2.1 2) (S.2.1 3) := hTL0
      obtain ⟨t0, t1, t2, t3, t4, t5, t6⟩ := xt_TL_n hTL
      have hP8 := xt_fr_Pic hfr hP9
      have hk3 := hfr.2.1 3 (Or.inl (by decide))
      have hk2 := hfr.2.1 2 (Or.inl (by decide))
      refine xt_iload_n C dX5_tile_33 rfl ?_
      refine xt_tabIn (tgt := 100) C dX5_tile_34 (by decide +kernel) (by decide +kernel) rfl (by decide) ?_
      refine xt_aload_n C dX5_tile_100 rfl ?_
      refine xt_get (f := 4) C xt_u5 rfl (by decide) (xt_cl0 _ _) (by decide) lkX5_33 rfl dX5_tile_101 ?_
      refine xt_getN (f := 2) C xt_u4 rfl (by decide) (xt_cl33 _ _) (by decide) lkX5_180 (xt_vI t2) dX5_tile_104 ?_
      refine xt_ofM ?_
      exact xt_iret C dX5_tile_107 ⟨by decide, by decide⟩ ⟨rfl, hfr⟩
    · exact absurd ⟨t, ht, rfl⟩ c8
  | 3, _ =>
    refine xt_aload_n C dX5_tile_0 rfl ?_
    refine xt_get (f := 0) C xt_u5 rfl (by decide) (xt_cl0 _ _) (by decide) lkX5_10 rfl dX5_tile_1 ?_
    refine xt_iload_n C dX5_tile_4 rfl ?_
    refine xt_cVN C mv_X1_hasTile lkX5_164 (ct_hasTile hP9) rfl (by decide) (xt_cl1 _ _) rfl (by decide) rfl (Nat.le_of_ble_eq_true rfl) dX5_tile_5 ?_
    refine xt_if_neB (tgt := 21) C dX5_tile_8 (by decide) (fun c8 => ?_) (fun c8 => ?_)
    · refine xt_aload_n C dX5_tile_21 rfl ?_
      refine xt_get (f := 4) C xt_u5 rfl (by decide) (xt_cl0 _ _) (by decide) lkX5_33 rfl dX5_tile_22 ?_
      refine xt_aload_n C dX5_tile_25 rfl ?_
      refine xt_get (f := 0) C xt_u5 rfl (by decide) (xt_cl0 _ _) (by decide) lkX5_10 rfl dX5_tile_26 ?_
      refine xt_iload_n C dX5_tile_29 rfl ?_
      refine xt_cVNpn C mv_X4_load lkX5_170 (ct_load (by exact hP9) ht hk) rfl (by decide) (xt_cl33 _ _) rfl (by decide) rfl (Nat.le_of_ble_eq_true rfl) dX5_tile_30 (fun S9 hq9 => ?_)
      obtain ⟨hfr, hTL0⟩ := hq9
      have hTL : xt_TL S9 c r sd pl pb t (S.2.1 2) (S.2.1 3) := hTL0
      obtain ⟨t0, t1, t2, t3, t4, t5, t6⟩ := xt_TL_n hTL
      have hP8 := xt_fr_Pic hfr hP9
      have hk3 := hfr.2.1 3 (Or.inl (by decide))
      have hk2 := hfr.2.1 2 (Or.inl (by decide))
      refine xt_iload_n C dX5_tile_33 rfl ?_
      refine xt_tabIn (tgt := 108) C dX5_tile_34 (by decide +kernel) (by decide +kernel) rfl (by decide) ?_
      refine xt_aload_n C dX5_tile_108 rfl ?_
      refine xt_get (f := 4) C xt_u5 rfl (by decide) (xt_cl0 _ _) (by decide) lkX5_33 rfl dX5_tile_109 ?_
      refine xt_getN (f := 3) C xt_u4 rfl (by decide) (xt_cl33 _ _) (by decide) lkX5_183 (xt_vI t3) dX5_tile_112 ?_
      refine xt_ofM ?_
      exact xt_iret C dX5_tile_115 ⟨by decide, by decide⟩ ⟨rfl, hfr⟩
    · exact absurd ⟨t, ht, rfl⟩ c8
  | 4, _ =>
    refine xt_aload_n C dX5_tile_0 rfl ?_
    refine xt_get (f := 0) C xt_u5 rfl (by decide) (xt_cl0 _ _) (by decide) lkX5_10 rfl dX5_tile_1 ?_
    refine xt_iload_n C dX5_tile_4 rfl ?_
    refine xt_cVN C mv_X1_hasTile lkX5_164 (ct_hasTile hP9) rfl (by decide) (xt_cl1 _ _) rfl (by decide) rfl (Nat.le_of_ble_eq_true rfl) dX5_tile_5 ?_
    refine xt_if_neB (tgt := 21) C dX5_tile_8 (by decide) (fun c8 => ?_) (fun c8 => ?_)
    · refine xt_aload_n C dX5_tile_21 rfl ?_
      refine xt_get (f := 4) C xt_u5 rfl (by decide) (xt_cl0 _ _) (by decide) lkX5_33 rfl dX5_tile_22 ?_
      refine xt_aload_n C dX5_tile_25 rfl ?_
      refine xt_get (f := 0) C xt_u5 rfl (by decide) (xt_cl0 _ _) (by decide) lkX5_10 rfl dX5_tile_26 ?_
      refine xt_iload_n C dX5_tile_29 rfl ?_
      refine xt_cVNpn C mv_X4_load lkX5_170 (ct_load (by exact hP9) ht hk) rfl (by decide) (xt_cl33 _ _) rfl (by decide) rfl (Nat.le_of_ble_eq_true rfl) dX5_tile_30 (fun S9 hq9 => ?_)
      obtain ⟨hfr, hTL0⟩ := hq9
      have hTL : xt_TL S9 c r sd pl pb t (S.2.1 2) (S.2.1 3) := hTL0
      obtain ⟨t0, t1, t2, t3, t4, t5, t6⟩ := xt_TL_n hTL
      have hP8 := xt_fr_Pic hfr hP9
      have hk3 := hfr.2.1 3 (Or.inl (by decide))
      have hk2 := hfr.2.1 2 (Or.inl (by decide))
      refine xt_iload_n C dX5_tile_33 rfl ?_
      refine xt_tabIn (tgt := 116) C dX5_tile_34 (by decide +kernel) (by decide +kernel) rfl (by decide) ?_
      refine xt_aload_n C dX5_tile_116 rfl ?_
      refine xt_get (f := 4) C xt_u5 rfl (by decide) (xt_cl0 _ _) (by decide) lkX5_33 rfl dX5_tile_117 ?_
      refine xt_getN (f := 4) C xt_u4 rfl (by decide) (xt_cl33 _ _) (by decide) lkX5_186 (xt_vI t4) dX5_tile_120 ?_
      refine xt_ofM ?_
      exact xt_iret C dX5_tile_123 ⟨by decide, by decide⟩ ⟨rfl, hfr⟩
    · exact absurd ⟨t, ht, rfl⟩ c8
  | 5, _ =>
    refine xt_aload_n C dX5_tile_0 rfl ?_
    refine xt_get (f := 0) C xt_u5 rfl (by decide) (xt_cl0 _ _) (by decide) lkX5_10 rfl dX5_tile_1 ?_
    refine xt_iload_n C dX5_tile_4 rfl ?_
    refine xt_cVN C mv_X1_hasTile lkX5_164 (ct_hasTile hP9) rfl (by decide) (xt_cl1 _ _) rfl (by decide) rfl (Nat.le_of_ble_eq_true rfl) dX5_tile_5 ?_
    refine xt_if_neB (tgt := 21) C dX5_tile_8 (by decide) (fun c8 => ?_) (fun c8 => ?_)
    · refine xt_aload_n C dX5_tile_21 rfl ?_
      refine xt_get (f := 4) C xt_u5 rfl (by decide) (xt_cl0 _ _) (by decide) lkX5_33 rfl dX5_tile_22 ?_
      refine xt_aload_n C dX5_tile_25 rfl ?_
      refine xt_get (f := 0) C xt_u5 rfl (by decide) (xt_cl0 _ _) (by decide) lkX5_10 rfl dX5_tile_26 ?_
      refine xt_iload_n C dX5_tile_29 rfl ?_
      refine xt_cVNpn C mv_X4_load lkX5_170 (ct_load (by exact hP9) ht hk) rfl (by decide) (xt_cl33 _ _) rfl (by decide) rfl (Nat.le_of_ble_eq_true rfl) dX5_tile_30 (fun S9 hq9 => ?_)
      obtain ⟨hfr, hTL0⟩ := hq9
      have hTL : xt_TL S9 c r sd pl pb t (S.2.1 2) (S.2.1 3) := hTL0
      obtain ⟨t0, t1, t2, t3, t4, t5, t6⟩ := xt_TL_n hTL
      have hP8 := xt_fr_Pic hfr hP9
      have hk3 := hfr.2.1 3 (Or.inl (by decide))
      have hk2 := hfr.2.1 2 (Or.inl (by decide))
      refine xt_iload_n C dX5_tile_33 rfl ?_
      refine xt_tabIn (tgt := 124) C dX5_tile_34 (by decide +kernel) (by decide +kernel) rfl (by decide) ?_
      refine xt_aload_n C dX5_tile_124 rfl ?_
      refine xt_get (f := 0) C xt_u5 rfl (by decide) (xt_cl0 _ _) (by decide) lkX5_10 rfl dX5_tile_125 ?_
      refine xt_aload_n C dX5_tile_128 rfl ?_
      refine xt_get (f := 0) C xt_u5 rfl (by decide) (xt_cl0 _ _) (by decide) lkX5_10 rfl dX5_tile_129 ?_
      refine xt_getN (f := 6) C xt_u1 rfl (by decide) (xt_cl1 _ _) (by decide) lkX5_112 rfl dX5_tile_132 ?_
      refine xt_iload_n C dX5_tile_135 rfl ?_
      refine xt_cVN C mv_X1_totalIn lkX5_189 (ct_totalIn hP8 (by decide) (xt_cl3 _) ht) rfl (by decide) (xt_cl1 _ _) rfl (by decide) rfl (Nat.le_of_ble_eq_true rfl) dX5_tile_136 ?_
      refine xt_ofM ?_
      refine xt_iret C dX5_tile_139 ⟨by decide, by decide⟩ ?_
      rw [hk3]
      exact ⟨rfl, hfr⟩
    · exact absurd ⟨t, ht, rfl⟩ c8
  | 6, _ =>
    refine xt_aload_n C dX5_tile_0 rfl ?_
    refine xt_get (f := 0) C xt_u5 rfl (by decide) (xt_cl0 _ _) (by decide) lkX5_10 rfl dX5_tile_1 ?_
    refine xt_iload_n C dX5_tile_4 rfl ?_
    refine xt_cVN C mv_X1_hasTile lkX5_164 (ct_hasTile hP9) rfl (by decide) (xt_cl1 _ _) rfl (by decide) rfl (Nat.le_of_ble_eq_true rfl) dX5_tile_5 ?_
    refine xt_if_neB (tgt := 21) C dX5_tile_8 (by decide) (fun c8 => ?_) (fun c8 => ?_)
    · refine xt_aload_n C dX5_tile_21 rfl ?_
      refine xt_get (f := 4) C xt_u5 rfl (by decide) (xt_cl0 _ _) (by decide) lkX5_33 rfl dX5_tile_22 ?_
      refine xt_aload_n C dX5_tile_25 rfl ?_
      refine xt_get (f := 0) C xt_u5 rfl (by decide) (xt_cl0 _ _) (by decide) lkX5_10 rfl dX5_tile_26 ?_
      refine xt_iload_n C dX5_tile_29 rfl ?_
      refine xt_cVNpn C mv_X4_load lkX5_170 (ct_load (by exact hP9) ht hk) rfl (by decide) (xt_cl33 _ _) rfl (by decide) rfl (Nat.le_of_ble_eq_true rfl) dX5_tile_30 (fun S9 hq9 => ?_)
      obtain ⟨hfr, hTL0⟩ := hq9
      have hTL : xt_TL S9 c r sd pl pb t (S.2.1 2) (S.2.1 3) := hTL0
      obtain ⟨t0, t1, t2, t3, t4, t5, t6⟩ := xt_TL_n hTL
      have hP8 := xt_fr_Pic hfr hP9
      have hk3 := hfr.2.1 3 (Or.inl (by decide))
      have hk2 := hfr.2.1 2 (Or.inl (by decide))
      refine xt_iload_n C dX5_tile_33 rfl ?_
      refine xt_tabIn (tgt := 140) C dX5_tile_34 (by decide +kernel) (by decide +kernel) rfl (by decide) ?_
      refine xt_aload_n C dX5_tile_140 rfl ?_
      refine xt_get (f := 4) C xt_u5 rfl (by decide) (xt_cl0 _ _) (by decide) lkX5_33 rfl dX5_tile_141 ?_
      refine xt_aload_n C dX5_tile_144 rfl ?_
      refine xt_get (f := 4) C xt_u5 rfl (by decide) (xt_cl0 _ _) (by decide) lkX5_33 rfl dX5_tile_145 ?_
      refine xt_getN (f := 10) C xt_u4 rfl (by decide) (xt_cl33 _ _) (by decide) lkX5_192 rfl dX5_tile_148 ?_
      refine xt_cVN C mv_X4_countOther lkX5_193 (ct_countOther (xt_TL_n hTL) (by decide) (xt_cl38 _)) rfl (by decide) (xt_cl33 _ _) rfl (by decide) rfl (Nat.le_of_ble_eq_true rfl) dX5_tile_151 ?_
      refine xt_ofM ?_
      refine xt_iret C dX5_tile_154 ⟨by decide, by decide⟩ ?_
      refine ⟨?_, hfr⟩
      have e9 := xt_N2_c (P := fun x y => ¬ S9.2.1 38 (8 * y + x) = 0) (P' := fun x y => ¬ nI (xt_tM c r sd pl t (S.2.1 3) (8 * y + x)) = 0) (w := xt_gw c sd t) (h := xt_gh c r sd t) (fun y x hy hx => by rw [(xt_TL_m hTL y x hy hx).1])
      rw [e9]
      rfl
    · exact absurd ⟨t, ht, rfl⟩ c8
  | 7, _ =>
    refine xt_aload_n C dX5_tile_0 rfl ?_
    refine xt_get (f := 0) C xt_u5 rfl (by decide) (xt_cl0 _ _) (by decide) lkX5_10 rfl dX5_tile_1 ?_
    refine xt_iload_n C dX5_tile_4 rfl ?_
    refine xt_cVN C mv_X1_hasTile lkX5_164 (ct_hasTile hP9) rfl (by decide) (xt_cl1 _ _) rfl (by decide) rfl (Nat.le_of_ble_eq_true rfl) dX5_tile_5 ?_
    refine xt_if_neB (tgt := 21) C dX5_tile_8 (by decide) (fun c8 => ?_) (fun c8 => ?_)
    · refine xt_aload_n C dX5_tile_21 rfl ?_
      refine xt_get (f := 4) C xt_u5 rfl (by decide) (xt_cl0 _ _) (by decide) lkX5_33 rfl dX5_tile_22 ?_
      refine xt_aload_n C dX5_tile_25 rfl ?_
      refine xt_get (f := 0) C xt_u5 rfl (by decide) (xt_cl0 _ _) (by decide) lkX5_10 rfl dX5_tile_26 ?_
      refine xt_iload_n C dX5_tile_29 rfl ?_
      refine xt_cVNpn C mv_X4_load lkX5_170 (ct_load (by exact hP9) ht hk) rfl (by decide) (xt_cl33 _ _) rfl (by decide) rfl (Nat.le_of_ble_eq_true rfl) dX5_tile_30 (fun S9 hq9 => ?_)
      obtain ⟨hfr, hTL0⟩ := hq9
      have hTL : xt_TL S9 c r sd pl pb t (S.2.1 2) (S.2.1 3) := hTL0
      obtain ⟨t0, t1, t2, t3, t4, t5, t6⟩ := xt_TL_n hTL
      have hP8 := xt_fr_Pic hfr hP9
      have hk3 := hfr.2.1 3 (Or.inl (by decide))
      have hk2 := hfr.2.1 2 (Or.inl (by decide))
      refine xt_iload_n C dX5_tile_33 rfl ?_
      refine xt_tabIn (tgt := 155) C dX5_tile_34 (by decide +kernel) (by decide +kernel) rfl (by decide) ?_
      refine xt_aload_n C dX5_tile_155 rfl ?_
      refine xt_get (f := 4) C xt_u5 rfl (by decide) (xt_cl0 _ _) (by decide) lkX5_33 rfl dX5_tile_156 ?_
      refine xt_aload_n C dX5_tile_159 rfl ?_
      refine xt_get (f := 4) C xt_u5 rfl (by decide) (xt_cl0 _ _) (by decide) lkX5_33 rfl dX5_tile_160 ?_
      refine xt_getN (f := 7) C xt_u4 rfl (by decide) (xt_cl33 _ _) (by decide) lkX5_196 rfl dX5_tile_163 ?_
      refine xt_cVN C mv_X4_countOther lkX5_193 (ct_countOther (xt_TL_n hTL) (by decide) (xt_cl35 _)) rfl (by decide) (xt_cl33 _ _) rfl (by decide) rfl (Nat.le_of_ble_eq_true rfl) dX5_tile_166 ?_
      refine xt_ofM ?_
      refine xt_iret C dX5_tile_169 ⟨by decide, by decide⟩ ?_
      refine ⟨?_, hfr⟩
      have e9 := xt_N2_c (P := fun x y => ¬ S9.2.1 35 (8 * y + x) = 0) (P' := fun x y => ¬ xt_tC c r sd pl t (S.2.1 2) (8 * y + x) = 0) (w := xt_gw c sd t) (h := xt_gh c r sd t) (fun y x hy hx => by rw [(xt_TL_c hTL (8 * y + x) ⟨by omega, by omega⟩).1])
      rw [e9]
      rfl
    · exact absurd ⟨t, ht, rfl⟩ c8
  | 8, _ =>
    refine xt_aload_n C dX5_tile_0 rfl ?_
    refine xt_get (f := 0) C xt_u5 rfl (by decide) (xt_cl0 _ _) (by decide) lkX5_10 rfl dX5_tile_1 ?_
    refine xt_iload_n C dX5_tile_4 rfl ?_
    refine xt_cVN C mv_X1_hasTile lkX5_164 (ct_hasTile hP9) rfl (by decide) (xt_cl1 _ _) rfl (by decide) rfl (Nat.le_of_ble_eq_true rfl) dX5_tile_5 ?_
    refine xt_if_neB (tgt := 21) C dX5_tile_8 (by decide) (fun c8 => ?_) (fun c8 => ?_)
    · refine xt_aload_n C dX5_tile_21 rfl ?_
      refine xt_get (f := 4) C xt_u5 rfl (by decide) (xt_cl0 _ _) (by decide) lkX5_33 rfl dX5_tile_22 ?_
      refine xt_aload_n C dX5_tile_25 rfl ?_
      refine xt_get (f := 0) C xt_u5 rfl (by decide) (xt_cl0 _ _) (by decide) lkX5_10 rfl dX5_tile_26 ?_
      refine xt_iload_n C dX5_tile_29 rfl ?_
      refine xt_cVNpn C mv_X4_load lkX5_170 (ct_load (by exact hP9) ht hk) rfl (by decide) (xt_cl33 _ _) rfl (by decide) rfl (Nat.le_of_ble_eq_true rfl) dX5_tile_30 (fun S9 hq9 => ?_)
      obtain ⟨hfr, hTL0⟩ := hq9
      have hTL : xt_TL S9 c r sd pl pb t (S.2.1 2) (S.2.1 3) := hTL0
      obtain ⟨t0, t1, t2, t3, t4, t5, t6⟩ := xt_TL_n hTL
      have hP8 := xt_fr_Pic hfr hP9
      have hk3 := hfr.2.1 3 (Or.inl (by decide))
      have hk2 := hfr.2.1 2 (Or.inl (by decide))
      refine xt_iload_n C dX5_tile_33 rfl ?_
      refine xt_tabIn (tgt := 170) C dX5_tile_34 (by decide +kernel) (by decide +kernel) rfl (by decide) ?_
      refine xt_aload_n C dX5_tile_170 rfl ?_
      refine xt_get (f := 0) C xt_u5 rfl (by decide) (xt_cl0 _ _) (by decide) lkX5_10 rfl dX5_tile_171 ?_
      refine xt_aload_n C dX5_tile_174 rfl ?_
      refine xt_get (f := 0) C xt_u5 rfl (by decide) (xt_cl0 _ _) (by decide) lkX5_10 rfl dX5_tile_175 ?_
      refine xt_getN (f := 5) C xt_u1 rfl (by decide) (xt_cl1 _ _) (by decide) lkX5_120 rfl dX5_tile_178 ?_
      refine xt_iload_n C dX5_tile_181 rfl ?_
      refine xt_cVN C mv_X1_totalIn lkX5_189 (ct_totalIn hP8 (by decide) (xt_cl2 _) ht) rfl (by decide) (xt_cl1 _ _) rfl (by decide) rfl (Nat.le_of_ble_eq_true rfl) dX5_tile_182 ?_
      refine xt_ofM ?_
      refine xt_iret C dX5_tile_185 ⟨by decide, by decide⟩ ?_
      rw [hk2]
      exact ⟨rfl, hfr⟩
    · exact absurd ⟨t, ht, rfl⟩ c8
set_option maxRecDepth 20000 in
set_option maxHeartbeats 2000000 in
theorem ct_tile_bad1 {Q : Option Value → xt_St → Prop} (hst : l.stackTraces = false) {c r sd pl pb : Nat} (hP : xt_Pic S 1 c r sd pl pb) {a w9 : Int32} (hb : ¬ ∃ j, j < xt_nt c r sd ∧ a = nI j) : xt_CtX E l yX5_tile cX5_tile 3 (some Jvm.ClassFile.FieldType.int) 7 131 1 6 [.ref (E.1 0), .int a, .int w9] S Q (xt_Ex "java/lang/IndexOutOfBoundsException" S) := by
  refine xt_bodyX (by decide +kernel) (xt_all rfl) (Nat.le_of_ble_eq_true rfl) (fun cx C hl9 hx9 => ?_)
  show xt_X E cx _ 0 0 0 [some (.ref (E.1 0)), some (.int a), some (.int w9)] [] S
  refine xt_aload_n C dX5_tile_0 rfl ?_
  refine xt_get (f := 0) C xt_u5 rfl (by decide) (xt_cl0 _ _) (by decide) lkX5_10 rfl dX5_tile_1 ?_
  refine xt_iload_n C dX5_tile_4 rfl ?_
  refine xt_cVN C mv_X1_hasTile lkX5_164 (ct_hasTile hP) rfl (by decide) (xt_cl1 _ _) rfl (by decide) rfl (Nat.le_of_ble_eq_true rfl) dX5_tile_5 ?_
  refine xt_if_neB (tgt := 21) C dX5_tile_8 (by decide) (fun c8 => ?_) (fun c8 => ?_)
  · exact absurd c8 hb
  · exact xt_throwS (i := 7) C (by rw [hl9]; exact hst) hx9 xw_134 rfl dX5_tile_11 dX5_tile_14 dX5_tile_15 dX5_tile_17 dX5_tile_20 rfl ⟨by decide, by decide, by decide, by decide⟩ (by decide) ⟨by decide, by decide⟩ ⟨rfl, rfl⟩
set_option maxRecDepth 20000 in
set_option maxHeartbeats 2000000 in
theorem ct_tile_bad2 {Q : Option Value → xt_St → Prop} (hst : l.stackTraces = false) {c r sd pl pb : Nat} (hP : xt_Pic S 1 c r sd pl pb) {t : Nat} (ht : t < xt_nt c r sd) (hk : ∀ j, j < 256 → S.2.1 3 j = nI 0 ∨ S.2.1 3 j = nI 1) {a : Int32} (hj : a.toInt < 0 ∨ 8 < a.toInt) : xt_CtX E l yX5_tile cX5_tile 3 (some Jvm.ClassFile.FieldType.int) 7 131 1 6 [.ref (E.1 0), .int (nI t), .int a] S Q (fun X S9 => X = "java/lang/IllegalArgumentException" ∧ xt_fr S S9) := by
  refine xt_bodyX (by decide +kernel) (xt_all rfl) (Nat.le_of_ble_eq_true rfl) (fun cx C hl9 hx9 => ?_)
  show xt_X E cx _ 0 0 0 [some (.ref (E.1 0)), some (.int (nI t)), some (.int a)] [] S
  have hP9 := hP
  obtain ⟨hc, hr, hs, hv, hb, b1, b2, b3, b4, b5, b6, b7⟩ := hP
  have hn := xt_nt_b ⟨b1, b2⟩ ⟨b3, b4⟩ b5
  have hT := xt_tile_b ⟨b1, b2⟩ ⟨b3, b4⟩ b5 ht
  refine xt_aload_n C dX5_tile_0 rfl ?_
  refine xt_get (f := 0) C xt_u5 rfl (by decide) (xt_cl0 _ _) (by decide) lkX5_10 rfl dX5_tile_1 ?_
  refine xt_iload_n C dX5_tile_4 rfl ?_
  refine xt_cVN C mv_X1_hasTile lkX5_164 (ct_hasTile hP9) rfl (by decide) (xt_cl1 _ _) rfl (by decide) rfl (Nat.le_of_ble_eq_true rfl) dX5_tile_5 ?_
  refine xt_if_neB (tgt := 21) C dX5_tile_8 (by decide) (fun c8 => ?_) (fun c8 => ?_)
  · refine xt_aload_n C dX5_tile_21 rfl ?_
    refine xt_get (f := 4) C xt_u5 rfl (by decide) (xt_cl0 _ _) (by decide) lkX5_33 rfl dX5_tile_22 ?_
    refine xt_aload_n C dX5_tile_25 rfl ?_
    refine xt_get (f := 0) C xt_u5 rfl (by decide) (xt_cl0 _ _) (by decide) lkX5_10 rfl dX5_tile_26 ?_
    refine xt_iload_n C dX5_tile_29 rfl ?_
    refine xt_cVNpn C mv_X4_load lkX5_170 (ct_load (by exact hP9) ht hk) rfl (by decide) (xt_cl33 _ _) rfl (by decide) rfl (Nat.le_of_ble_eq_true rfl) dX5_tile_30 (fun S9 hq9 => ?_)
    obtain ⟨hfr, hTL0⟩ := hq9
    have hTL : xt_TL S9 c r sd pl pb t (S.2.1 2) (S.2.1 3) := hTL0
    refine xt_iload_n C dX5_tile_33 rfl ?_
    refine xt_tabOut (tgt := 186) C dX5_tile_34 hj (by decide) ?_
    exact xt_throwS (i := 8) C (by rw [hl9]; exact hst) hx9 xw_65 rfl dX5_tile_186 dX5_tile_189 dX5_tile_190 dX5_tile_192 dX5_tile_195 rfl ⟨by decide, by decide, by decide, by decide⟩ (by decide) ⟨by decide, by decide⟩ ⟨rfl, hfr⟩
  · exact absurd ⟨t, ht, rfl⟩ c8
set_option maxRecDepth 20000 in
set_option maxHeartbeats 2000000 in
theorem ct_feed_ok {QX : String → xt_St → Prop} {n : Nat} (hn : S.1 46 1 = nI n) (h60 : n < 60) {x : Int32} : xt_CtX E l yX5_feed cX5_feed 2 (some Jvm.ClassFile.FieldType.int) 7 110 1 6 [.ref (E.1 0), .int x] S (xt_Eq (some (.int (nI (n + 1)))) (xt_sN (xt_sA S 47 (upd (S.2.1 47) n (vp_nar .char x))) 46 1 (nI (n + 1)))) QX := by
  refine xt_bodyX (by decide +kernel) (xt_all rfl) (Nat.le_of_ble_eq_true rfl) (fun cx C hl9 hx9 => ?_)
  show xt_X E cx _ 0 0 0 [some (.ref (E.1 0)), some (.int x)] [] S
  refine xt_aload_n C dX5_feed_0 rfl ?_
  refine xt_get (f := 6) C xt_u5 rfl (by decide) (xt_cl0 _ _) (by decide) lkX5_47 rfl dX5_feed_1 ?_
  refine xt_getN (f := 1) C xt_u3 rfl (by decide) (xt_cl46 _ _) (by decide) lkX5_126 (xt_vI (by first | exact hn | exact hn2)) dX5_feed_4 ?_
  refine xt_bipush (v := nI 60) C dX5_feed_7 (by decide) ?_
  refine xt_icmp_ltN (tgt := 23) C dX5_feed_9 (by decide) (by omega) (by omega) (fun c9 => ?_) (fun c9 => ?_)
  · refine xt_aload_n C dX5_feed_23 rfl ?_
    refine xt_get (f := 6) C xt_u5 rfl (by decide) (xt_cl0 _ _) (by decide) lkX5_47 rfl dX5_feed_24 ?_
    refine xt_iload_n C dX5_feed_27 rfl ?_
    refine xt_cVNn C mv_X3_append lkX5_314 (ct_append1 hn h60) rfl (by decide) (xt_cl46 _ _) rfl (by decide) rfl (Nat.le_of_ble_eq_true rfl) dX5_feed_28 ?_
    have hn2 : (xt_sN (xt_sA S 47 (upd (S.2.1 47) n (vp_nar .char x))) 46 1 (nI (n + 1))).1 46 1 = nI (n + 1) := by simp [xt_sN]
    refine xt_aload_n C dX5_feed_31 rfl ?_
    refine xt_get (f := 6) C xt_u5 rfl (by decide) (xt_cl0 _ _) (by decide) lkX5_47 rfl dX5_feed_32 ?_
    refine xt_getN (f := 1) C xt_u3 rfl (by decide) (xt_cl46 _ _) (by decide) lkX5_126 (xt_vI (by first | exact hn | exact hn2)) dX5_feed_35 ?_
    refine xt_ofM ?_
    refine xt_iret C dX5_feed_38 ⟨by decide, by decide⟩ ?_
    refine ⟨?_, rfl⟩
    exact congrArg (fun z => some (Value.int z)) hn2
  · exact absurd c9 (by omega)
set_option maxRecDepth 20000 in
set_option maxHeartbeats 2000000 in
theorem ct_feed_bad {Q : Option Value → xt_St → Prop} (hst : l.stackTraces = false) {n : Nat} (hn : S.1 46 1 = nI n) (h60 : 60 ≤ n) (h61 : n < 1000) {x : Int32} : xt_CtX E l yX5_feed cX5_feed 2 (some Jvm.ClassFile.FieldType.int) 7 110 1 6 [.ref (E.1 0), .int x] S Q (xt_Ex "java/lang/IllegalStateException" S) := by
  refine xt_bodyX (by decide +kernel) (xt_all rfl) (Nat.le_of_ble_eq_true rfl) (fun cx C hl9 hx9 => ?_)
  show xt_X E cx _ 0 0 0 [some (.ref (E.1 0)), some (.int x)] [] S
  refine xt_aload_n C dX5_feed_0 rfl ?_
  refine xt_get (f := 6) C xt_u5 rfl (by decide) (xt_cl0 _ _) (by decide) lkX5_47 rfl dX5_feed_1 ?_
  refine xt_getN (f := 1) C xt_u3 rfl (by decide) (xt_cl46 _ _) (by decide) lkX5_126 (xt_vI (by first | exact hn | exact hn2)) dX5_feed_4 ?_
  refine xt_bipush (v := nI 60) C dX5_feed_7 (by decide) ?_
  refine xt_icmp_ltN (tgt := 23) C dX5_feed_9 (by decide) (by omega) (by omega) (fun c9 => ?_) (fun c9 => ?_)
  · exact absurd c9 (by omega)
  · exact xt_throwW (i := 20) C (by rw [hl9]; exact hst) hx9 xw_309 rfl dX5_feed_12 dX5_feed_15 dX5_feed_16 dX5_feed_19 dX5_feed_22 rfl ⟨by decide, by decide, by decide, by decide⟩ (by decide) ⟨by decide, by decide⟩ ⟨rfl, rfl⟩
set_option maxRecDepth 20000 in
set_option maxHeartbeats 2000000 in
theorem ct_undo_ok {QX : String → xt_St → Prop} {nx kp : Nat} (hh : xt_Hi S nx kp) (hk1 : 0 < kp) : xt_CtX E l yX5_undo cX5_undo 1 (some Jvm.ClassFile.FieldType.int) 7 110 1 6 [.ref (E.1 0)] S (xt_Eq (some (.int ((xt_back S nx kp).1 7 2))) (xt_back S nx kp)) QX := by
  refine xt_bodyX (by decide +kernel) (xt_all rfl) (Nat.le_of_ble_eq_true rfl) (fun cx C hl9 hx9 => ?_)
  show xt_X E cx _ 0 0 0 [some (.ref (E.1 0))] [] S
  have hh2 := hh.2.1
  have hh4 := hh.2.2.2
  refine xt_aload_n C dX5_undo_0 rfl ?_
  refine xt_get (f := 3) C xt_u5 rfl (by decide) (xt_cl0 _ _) (by decide) lkX5_26 rfl dX5_undo_1 ?_
  refine xt_getN (f := 2) C xt_u0 rfl (by decide) (xt_cl7 _ _) (by decide) lkX5_123 (xt_vI (by first | exact hh2 | rfl)) dX5_undo_4 ?_
  refine xt_iconst (v := nI 1) C dX5_undo_7 rfl ?_
  refine xt_icmp_geN (tgt := 22) C dX5_undo_8 (by decide) (by omega) (by omega) (fun c8 => ?_) (fun c8 => ?_)
  · refine xt_aload_n C dX5_undo_22 rfl ?_
    refine xt_get (f := 3) C xt_u5 rfl (by decide) (xt_cl0 _ _) (by decide) lkX5_26 rfl dX5_undo_23 ?_
    refine xt_aload_n C dX5_undo_26 rfl ?_
    refine xt_get (f := 0) C xt_u5 rfl (by decide) (xt_cl0 _ _) (by decide) lkX5_10 rfl dX5_undo_27 ?_
    refine xt_cVNn C mv_X0_takeBack lkX5_342 (ct_takeBack hh.1 hh.2.1 hh.2.2.1 hh.2.2.2 hk1) rfl (by decide) (xt_cl7 _ _) rfl (by decide) rfl (Nat.le_of_ble_eq_true rfl) dX5_undo_30 ?_
    refine xt_aload_n C dX5_undo_33 rfl ?_
    refine xt_get (f := 3) C xt_u5 rfl (by decide) (xt_cl0 _ _) (by decide) lkX5_26 rfl dX5_undo_34 ?_
    refine xt_getN (f := 2) C xt_u0 rfl (by decide) (xt_cl7 _ _) (by decide) lkX5_123 (xt_vI (by first | exact hh2 | rfl)) dX5_undo_37 ?_
    refine xt_ofM ?_
    exact xt_iret C dX5_undo_40 ⟨by decide, by decide⟩ ⟨rfl, rfl⟩
  · exact absurd c8 (by omega)
set_option maxRecDepth 20000 in
set_option maxHeartbeats 2000000 in
theorem ct_undo_bad {Q : Option Value → xt_St → Prop} (hst : l.stackTraces = false) {nx kp : Nat} (hh : xt_Hi S nx kp) (hk1 : kp = 0) : xt_CtX E l yX5_undo cX5_undo 1 (some Jvm.ClassFile.FieldType.int) 7 110 1 6 [.ref (E.1 0)] S Q (xt_Ex "java/lang/IllegalStateException" S) := by
  refine xt_bodyX (by decide +kernel) (xt_all rfl) (Nat.le_of_ble_eq_true rfl) (fun cx C hl9 hx9 => ?_)
  show xt_X E cx _ 0 0 0 [some (.ref (E.1 0))] [] S
  have hh2 := hh.2.1
  have hh4 := hh.2.2.2
  refine xt_aload_n C dX5_undo_0 rfl ?_
  refine xt_get (f := 3) C xt_u5 rfl (by decide) (xt_cl0 _ _) (by decide) lkX5_26 rfl dX5_undo_1 ?_
  refine xt_getN (f := 2) C xt_u0 rfl (by decide) (xt_cl7 _ _) (by decide) lkX5_123 (xt_vI hh2) dX5_undo_4 ?_
  refine xt_iconst (v := nI 1) C dX5_undo_7 rfl ?_
  refine xt_icmp_geN (tgt := 22) C dX5_undo_8 (by decide) (by omega) (by omega) (fun c8 => ?_) (fun c8 => ?_)
  · exact absurd c8 (by omega)
  · exact xt_throwW (i := 29) C (by rw [hl9]; exact hst) hx9 xw_309 rfl dX5_undo_11 dX5_undo_14 dX5_undo_15 dX5_undo_18 dX5_undo_21 rfl ⟨by decide, by decide, by decide, by decide⟩ (by decide) ⟨by decide, by decide⟩ ⟨rfl, rfl⟩
set_option maxRecDepth 20000 in
set_option maxHeartbeats 2000000 in
theorem ct_save_ok {QX : String → xt_St → Prop} {c r sd lv bo : Nat} (hP : xt_Pic S 1 c r sd lv bo) : xt_CtX E l yX5_saveSnapshot cX5_saveSnapshot 1 (some Jvm.ClassFile.FieldType.int) 3 61 1 6 [.ref (E.1 0)] S (xt_Eq (some (.int (nI (xt_nt c r sd)))) (xt_sN (xt_cp S 4 1) 0 2 (nI 1))) QX := by
  refine xt_bodyX (by decide +kernel) (xt_all rfl) (Nat.le_of_ble_eq_true rfl) (fun cx C hl9 hx9 => ?_)
  show xt_X E cx _ 0 0 0 [some (.ref (E.1 0))] [] S
  refine xt_aload_n C dX5_saveSnapshot_0 rfl ?_
  refine xt_get (f := 1) C xt_u5 rfl (by decide) (xt_cl0 _ _) (by decide) lkX5_16 rfl dX5_saveSnapshot_1 ?_
  refine xt_aload_n C dX5_saveSnapshot_4 rfl ?_
  refine xt_get (f := 0) C xt_u5 rfl (by decide) (xt_cl0 _ _) (by decide) lkX5_10 rfl dX5_saveSnapshot_5 ?_
  refine xt_cVNn C mv_X1_copy lkX5_345 (ct_copy (Or.inr (Or.inl rfl)) (Or.inl rfl) (by decide)) rfl (by decide) (xt_cl4 _ _) rfl (by decide) rfl (Nat.le_of_ble_eq_true rfl) dX5_saveSnapshot_8 ?_
  refine xt_aload_n C dX5_saveSnapshot_11 rfl ?_
  refine xt_iconst (v := nI 1) C dX5_saveSnapshot_12 rfl ?_
  refine xt_put (f := 2) C xt_u5 rfl (by decide) (xt_cl0 _ _) (by decide) tyX5 tyX5_ok nmX5 lkX5_19 rfl (tyX5_ok 2 (by decide)) rfl rfl (Nat.le_of_ble_eq_true rfl) rfl dX5_saveSnapshot_13 ?_
  have hP2 : xt_Pic (xt_sN (xt_cp S 4 1) 0 2 (nI 1)) 1 c r sd lv bo := hP
  refine xt_aload_n C dX5_saveSnapshot_16 rfl ?_
  refine xt_get (f := 0) C xt_u5 rfl (by decide) (xt_cl0 _ _) (by decide) lkX5_10 rfl dX5_saveSnapshot_17 ?_
  refine xt_cVN C mv_X1_tileTotal lkX5_80 (ct_total (by exact hP2)) rfl (by decide) (xt_cl1 _ _) rfl (by decide) rfl (Nat.le_of_ble_eq_true rfl) dX5_saveSnapshot_20 ?_
  refine xt_ofM ?_
  exact xt_iret C dX5_saveSnapshot_23 ⟨by decide, by decide⟩ ⟨rfl, rfl⟩
set_option maxRecDepth 20000 in
set_option maxHeartbeats 2000000 in
theorem ct_restore_ok {QX : String → xt_St → Prop} {c r sd lv bo : Nat} (hP : xt_Pic S 4 c r sd lv bo) (hs9 : S.1 0 2 = nI 1) : xt_CtX E l yX5_restoreSnapshot cX5_restoreSnapshot 1 (some Jvm.ClassFile.FieldType.int) 7 110 1 6 [.ref (E.1 0)] S (xt_Eq (some (.int (nI (xt_nt c r sd)))) (xt_sN (xt_cp S 1 4) 7 2 (nI 0))) QX := by
  refine xt_bodyX (by decide +kernel) (xt_all rfl) (Nat.le_of_ble_eq_true rfl) (fun cx C hl9 hx9 => ?_)
  show xt_X E cx _ 0 0 0 [some (.ref (E.1 0))] [] S
  refine xt_aload_n C dX5_restoreSnapshot_0 rfl ?_
  refine xt_get (f := 2) C xt_u5 rfl (by decide) (xt_cl0 _ _) (by decide) lkX5_19 (xt_vI hs9) dX5_restoreSnapshot_1 ?_
  refine xt_if_neN (tgt := 18) C dX5_restoreSnapshot_4 (by decide) (by omega) (fun c4 => ?_) (fun c4 => ?_)
  · refine xt_aload_n C dX5_restoreSnapshot_18 rfl ?_
    refine xt_get (f := 0) C xt_u5 rfl (by decide) (xt_cl0 _ _) (by decide) lkX5_10 rfl dX5_restoreSnapshot_19 ?_
    refine xt_aload_n C dX5_restoreSnapshot_22 rfl ?_
    refine xt_get (f := 1) C xt_u5 rfl (by decide) (xt_cl0 _ _) (by decide) lkX5_16 rfl dX5_restoreSnapshot_23 ?_
    refine xt_cVNn C mv_X1_copy lkX5_345 (ct_copy (Or.inl rfl) (Or.inr (Or.inl rfl)) (by decide)) rfl (by decide) (xt_cl1 _ _) rfl (by decide) rfl (Nat.le_of_ble_eq_true rfl) dX5_restoreSnapshot_26 ?_
    refine xt_aload_n C dX5_restoreSnapshot_29 rfl ?_
    refine xt_get (f := 3) C xt_u5 rfl (by decide) (xt_cl0 _ _) (by decide) lkX5_26 rfl dX5_restoreSnapshot_30 ?_
    refine xt_iconst (v := nI 0) C dX5_restoreSnapshot_33 rfl ?_
    refine xt_putN (f := 2) C xt_u0 rfl (by decide) (xt_cl7 _ _) (by decide) tyX0 tyX0_ok nmX0 lkX5_123 rfl (tyX0_ok 2 (by decide)) rfl rfl (Nat.le_of_ble_eq_true rfl) rfl dX5_restoreSnapshot_34 ?_
    have hP2 : xt_Pic (xt_sN (xt_cp S 1 4) 7 2 (nI 0)) 1 c r sd lv bo := hP
    refine xt_aload_n C dX5_restoreSnapshot_37 rfl ?_
    refine xt_get (f := 0) C xt_u5 rfl (by decide) (xt_cl0 _ _) (by decide) lkX5_10 rfl dX5_restoreSnapshot_38 ?_
    refine xt_cVN C mv_X1_tileTotal lkX5_80 (ct_total (by exact hP2)) rfl (by decide) (xt_cl1 _ _) rfl (by decide) rfl (Nat.le_of_ble_eq_true rfl) dX5_restoreSnapshot_41 ?_
    refine xt_ofM ?_
    exact xt_iret C dX5_restoreSnapshot_44 ⟨by decide, by decide⟩ ⟨rfl, rfl⟩
  · exact absurd c4 (by decide)
set_option maxRecDepth 20000 in
set_option maxHeartbeats 2000000 in
theorem ct_restore_bad {Q : Option Value → xt_St → Prop} (hst : l.stackTraces = false) (hs9 : S.1 0 2 = nI 0) : xt_CtX E l yX5_restoreSnapshot cX5_restoreSnapshot 1 (some Jvm.ClassFile.FieldType.int) 7 110 1 6 [.ref (E.1 0)] S Q (xt_Ex "java/lang/IllegalStateException" S) := by
  refine xt_bodyX (by decide +kernel) (xt_all rfl) (Nat.le_of_ble_eq_true rfl) (fun cx C hl9 hx9 => ?_)
  show xt_X E cx _ 0 0 0 [some (.ref (E.1 0))] [] S
  refine xt_aload_n C dX5_restoreSnapshot_0 rfl ?_
  refine xt_get (f := 2) C xt_u5 rfl (by decide) (xt_cl0 _ _) (by decide) lkX5_19 (xt_vI hs9) dX5_restoreSnapshot_1 ?_
  refine xt_if_neN (tgt := 18) C dX5_restoreSnapshot_4 (by decide) (by omega) (fun c4 => ?_) (fun c4 => ?_)
  · exact absurd c4 (by decide)
  · exact xt_throwW (i := 30) C (by rw [hl9]; exact hst) hx9 xw_309 rfl dX5_restoreSnapshot_7 dX5_restoreSnapshot_10 dX5_restoreSnapshot_11 dX5_restoreSnapshot_14 dX5_restoreSnapshot_17 rfl ⟨by decide, by decide, by decide, by decide⟩ (by decide) ⟨by decide, by decide⟩ ⟨rfl, rfl⟩
end XC29
