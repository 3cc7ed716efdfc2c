/-! THE TILE: A PLACE'S DESCRIPTION -/
section XC9
variable {E : xt_Ev} {l : Launch} {S : xt_St}
theorem xt_lev_sp {dp w h x y : Nat} (hd : dp ≤ 3) : (xt_lev dp w h x y = 0 ∧ ∀ i, 1 ≤ i → i ≤ dp → x < xt_lo w i ∧ y < xt_lo h i) ∨ (1 ≤ xt_lev dp w h x y ∧ xt_lev dp w h x y ≤ dp ∧ (xt_lo w (xt_lev dp w h x y) ≤ x ∨ xt_lo h (xt_lev dp w h x y) ≤ y) ∧ ∀ i, 1 ≤ i → i < xt_lev dp w h x y → x < xt_lo w i ∧ y < xt_lo h i) := by
  by_cases h1 : 1 ≤ dp ∧ (xt_lo w 1 ≤ x ∨ xt_lo h 1 ≤ y)
  · have e : xt_lev dp w h x y = 1 := by unfold xt_lev; rw [if_pos h1]
    rw [e]
    exact Or.inr ⟨by omega, h1.1, h1.2, fun i z1 z2 => by omega⟩
  · by_cases h2 : 2 ≤ dp ∧ (xt_lo w 2 ≤ x ∨ xt_lo h 2 ≤ y)
    · have e : xt_lev dp w h x y = 2 := by unfold xt_lev; rw [if_neg h1, if_pos h2]
      rw [e]
      exact Or.inr ⟨by omega, h2.1, h2.2, fun i z1 z2 => by have : i = 1 := by omega
                                                            subst this; omega⟩
    · by_cases h3 : 3 ≤ dp ∧ (xt_lo w 3 ≤ x ∨ xt_lo h 3 ≤ y)
      · have e : xt_lev dp w h x y = 3 := by unfold xt_lev; rw [if_neg h1, if_neg h2, if_pos h3]
        rw [e]
        refine Or.inr ⟨by omega, h3.1, h3.2, fun i z1 z2 => ?_⟩
        have : i = 1 ∨ i = 2 := by omega
        rcases this with rfl | rfl <;> omega
      · have e : xt_lev dp w h x y = 0 := by unfold xt_lev; rw [if_neg h1, if_neg h2, if_neg h3]
        rw [e]
        refine Or.inl ⟨rfl, fun i z1 z2 => ?_⟩
        have : i = 1 ∨ i = 2 ∨ i = 3 := by omega
        rcases this with rfl | rfl | rfl <;> omega
/-- the first pixel of which a place is made lies in the tile -/
theorem xt_bx_lt {w lv x : Nat} (hl : lv ≤ 3) (hx : x < w) (hw : w ≤ 8) (h : 2 ≤ lv → x < xt_lo w (lv - 1)) : xt_bx w lv x * 2 ^ lv < w ∧ xt_bx w lv x ≤ x := by
  have : lv = 0 ∨ lv = 1 ∨ lv = 2 ∨ lv = 3 := by omega
  unfold xt_bx
  rcases this with rfl | rfl | rfl | rfl
  · simp; omega
  · unfold xt_lo; split <;> omega
  · have h9 := h (by omega); unfold xt_lo at h9 ⊢; simp only [Nat.reducePow, Nat.reduceSub] at h9 ⊢; split <;> omega
  · have h9 := h (by omega); unfold xt_lo at h9 ⊢; simp only [Nat.reducePow, Nat.reduceSub] at h9 ⊢; split <;> omega
theorem xt_bx_0 {w dp x : Nat} (hl : dp ≤ 3) (hx : x < w) (h : 1 ≤ dp → x < xt_lo w dp) : x * 2 ^ dp < w := by
  have : dp = 0 ∨ dp = 1 ∨ dp = 2 ∨ dp = 3 := by omega
  rcases this with rfl | rfl | rfl | rfl
  · simpa using hx
  · have h9 := h (by omega); unfold xt_lo at h9; omega
  · have h9 := h (by omega); unfold xt_lo at h9; omega
  · have h9 := h (by omega); unfold xt_lo at h9; omega
/-- the levels that a place's number went down -/
def xt_dn (dp lv : Nat) : Nat := if lv = 0 then dp else lv
noncomputable def xt_dsc (S : xt_St) (c lf tp w h dp x y lv : Nat) : xt_St := xt_sA (xt_sA (xt_sA S 36 (upd (S.2.1 36) (8 * y + x) (nI (10 * lv + (xt_kx w lv x + 2 * xt_kx h lv y)))))
  37 (upd (S.2.1 37) (8 * y + x) (xt_par dp w h lv (xt_kx w lv x + 2 * xt_kx h lv y) (xt_bx w lv x) (xt_bx h lv y))))
  38 (upd (S.2.1 38) (8 * y + x) (xt_b (xt_mk (S.2.1 3) c lf tp w h (xt_dn dp lv) (xt_bx w lv x) (xt_bx h lv y))))
theorem xt_b01 {P : Prop} (h : P) : nI 1 = xt_b P := (xt_b1 h).symm
theorem xt_b00 {P : Prop} (h : ¬ P) : nI 0 = xt_b P := (xt_b0 h).symm
set_option maxRecDepth 20000 in
set_option maxHeartbeats 2000000 in
theorem ct_describe {lf tp w h dp bo : Nat} (hT : xt_Tn S lf tp w h dp bo) {c r sd pl pb : Nat} (hP : xt_Pic S 1 c r sd pl pb) (hk : ∀ j, j < 256 → S.2.1 3 j = nI 0 ∨ S.2.1 3 j = nI 1) (hlw : lf + w ≤ c) (hth : tp + h ≤ r) {x y : Nat} (hx : x < w) (hy : y < h) : xt_Ct E l yX4_describe cX4_describe 9 none 3 78 0 0 [.ref (E.1 33), .ref (E.1 1), .int (nI x), .int (nI y)] S (xt_Eq none (xt_dsc S c lf tp w h dp x y (xt_lev dp w h x y))) := by
  refine xt_body (by decide +kernel) (xt_all rfl) (Nat.le_of_ble_eq_true rfl) (fun cx C hl9 => ?_)
  show xt_X E cx _ 0 0 0 [some (.ref (E.1 33)), some (.ref (E.1 1)), some (.int (nI x)), some (.int (nI y)), none, none, none, none, none] [] S
  have hT9 := hT
  obtain ⟨t0, t1, t2, t3, t4, t5, g1, g2, g3, g4, g5, g6⟩ := hT
  have hP9 := hP
  obtain ⟨hc, hr, hs, hv, hb, b1, b2, b3, b4, b5, b6, b7⟩ := hP
  have hlv9 := xt_lev_sp (dp := dp) (w := w) (h := h) (x := x) (y := y) g3
  have hlv3 := xt_lev_le (dp := dp) (w := w) (h := h) (x := x) (y := y) g3
  have bxw : xt_bx w (xt_lev dp w h x y) x * 2 ^ xt_dn dp (xt_lev dp w h x y) < w ∧ xt_bx w (xt_lev dp w h x y) x ≤ x := by
    unfold xt_dn
    rcases hlv9 with ⟨e0, ha⟩ | ⟨z1, z2, -, ha⟩
    · rw [e0, if_pos rfl]
      exact ⟨xt_bx_0 g3 hx (fun z => (ha dp z (Nat.le_refl _)).1), by simp [xt_bx]⟩
    · rw [if_neg (by omega)]
      exact xt_bx_lt (by omega) hx g1 (fun z => (ha _ (by omega) (by omega)).1)
  have bxh : xt_bx h (xt_lev dp w h x y) y * 2 ^ xt_dn dp (xt_lev dp w h x y) < h ∧ xt_bx h (xt_lev dp w h x y) y ≤ y := by
    unfold xt_dn
    rcases hlv9 with ⟨e0, ha⟩ | ⟨z1, z2, -, ha⟩
    · rw [e0, if_pos rfl]
      exact ⟨xt_bx_0 g3 hy (fun z => (ha dp z (Nat.le_refl _)).2), by simp [xt_bx]⟩
    · rw [if_neg (by omega)]
      exact xt_bx_lt (by omega) hy g2 (fun z => (ha _ (by omega) (by omega)).2)
  have hdn9 : xt_dn dp (xt_lev dp w h x y) ≤ 3 := by unfold xt_dn; split <;> omega
  generalize hlvq : xt_lev dp w h x y = lv at hlv3 bxw bxh hdn9 ⊢
  clear hlv9
  have kx1 : xt_kx w lv x ≤ 1 := by unfold xt_kx; split <;> omega
  have ky1 : xt_kx h lv y ≤ 1 := by unfold xt_kx; split <;> omega
  have l1 := xt_lo_le (n := w) (k := lv) (by omega)
  have l2 := xt_lo_le (n := h) (k := lv) (by omega)
  have J87 : ∀ (q9 : Nat), q9 = 0 → xt_X E cx (xt_ZM E cx 0 0 (xt_Eq none (xt_dsc S c lf tp w h dp x y lv))) 0 0 87 [some (.ref (E.1 33)), some (.ref (E.1 1)), some (.int (nI x)), some (.int (nI y)), some (.int (nI lv)), some (.int (nI (xt_bx w lv x))), some (.int (nI (xt_bx h lv y))), some (.int (nI (xt_kx w lv x + 2 * xt_kx h lv y))), none] [] S := by
    intro q9 hq9
    refine xt_iload_n C dX4_describe_87 rfl ?_
    refine xt_iload_n C dX4_describe_88 rfl ?_
    refine xt_cSN C ms_X5_placeOf lkX4_88 ct_place rfl (by decide) rfl (Nat.le_of_ble_eq_true rfl) dX4_describe_89 ?_
    refine xt_istore (lo' := [_, _, _, _, _, _, _, _, _]) C dX4_describe_92 (Nat.le_of_ble_eq_true rfl) rfl rfl ?_
    refine xt_aload_n C dX4_describe_94 rfl ?_
    refine xt_get (f := 8) C xt_u4 rfl (by decide) (xt_cl33 _ _) (by decide) lkX4_18 rfl dX4_describe_95 ?_
    refine xt_iload C dX4_describe_98 rfl ?_
    refine xt_bipush (v := nI 10) C dX4_describe_100 (by decide) ?_
    refine xt_iload C dX4_describe_102 rfl ?_
    refine xt_imulN C dX4_describe_104 ?_
    refine xt_iload C dX4_describe_105 rfl ?_
    refine xt_iaddN C dX4_describe_107 ?_
    refine xt_cSNn C ms_X5_put lkX4_91 (ct_put (by decide) (xt_cl36 _) (by decide) (by omega)) rfl (by decide) rfl (Nat.le_of_ble_eq_true rfl) dX4_describe_108 ?_
    refine xt_aload_n C dX4_describe_111 rfl ?_
    refine xt_get (f := 9) C xt_u4 rfl (by decide) (xt_cl33 _ _) (by decide) lkX4_21 rfl dX4_describe_112 ?_
    refine xt_iload C dX4_describe_115 rfl ?_
    refine xt_aload_n C dX4_describe_117 rfl ?_
    refine xt_iload C dX4_describe_118 rfl ?_
    refine xt_iload C dX4_describe_120 rfl ?_
    refine xt_iload C dX4_describe_122 rfl ?_
    refine xt_iload C dX4_describe_124 rfl ?_
    refine xt_cV C mv_X4_parentOf lkX4_106 (ct_parentOf (by exact hT9) hlv3 (by omega) (by omega) (by omega)) rfl (by decide) (xt_cl33 _ _) rfl (by decide) rfl (Nat.le_of_ble_eq_true rfl) dX4_describe_126 ?_
    refine xt_cSNn C ms_X5_put lkX4_91 (ct_put (by decide) (xt_cl37 _) (by decide) (by omega)) rfl (by decide) rfl (Nat.le_of_ble_eq_true rfl) dX4_describe_129 ?_
    refine xt_aload_n C dX4_describe_132 rfl ?_
    refine xt_get (f := 10) C xt_u4 rfl (by decide) (xt_cl33 _ _) (by decide) lkX4_24 rfl dX4_describe_133 ?_
    refine xt_iload C dX4_describe_136 rfl ?_
    refine xt_aload_n C dX4_describe_138 rfl ?_
    refine xt_aload_n C dX4_describe_139 rfl ?_
    refine xt_iload C dX4_describe_140 rfl ?_
    refine xt_iload C dX4_describe_142 rfl ?_
    refine xt_iload C dX4_describe_144 rfl ?_
    refine xt_if_neN (tgt := 156) C dX4_describe_146 (by decide) (by omega) (fun c146 => ?_) (fun c146 => ?_)
    · have hdn : xt_dn dp lv = lv := by unfold xt_dn; exact if_neg (by omega)
      have hb1 := bxw.1
      have hb2 := bxh.1
      have hb3 := hdn9
      rw [hdn] at hb1 hb2 hb3
      refine xt_iload C dX4_describe_156 rfl ?_
      refine xt_cV C mv_X4_isMade lkX4_110 (ct_isMade (by exact hT9) (by exact hP9) (by exact hk) hlw hth hb3 hb1 hb2 (by omega) (by omega)) rfl (by decide) (xt_cl33 _ _) rfl (by decide) rfl (Nat.le_of_ble_eq_true rfl) dX4_describe_158 ?_
      refine xt_if_eqB (tgt := 168) C dX4_describe_161 (by decide) (fun c161 => ?_) (fun c161 => ?_)
      · refine xt_iconst (v := nI 0) C dX4_describe_168 rfl ?_
        refine xt_cSNn C ms_X5_put lkX4_91 (ct_put (by decide) (xt_cl38 _) (by decide) (by omega)) rfl (by decide) rfl (Nat.le_of_ble_eq_true rfl) dX4_describe_169 ?_
        refine xt_vret C dX4_describe_172 ⟨by decide, by decide⟩ ?_
        refine ⟨rfl, ?_⟩
        unfold xt_dsc
        rw [hdn, Nat.mul_comm 10 lv]
        first
        | (rw [xt_b1 (show xt_mk (S.2.1 3) c lf tp w h _ (xt_bx w lv x) (xt_bx h lv y) from c161)]; rfl)
        | (rw [xt_b0 (show ¬ xt_mk (S.2.1 3) c lf tp w h _ (xt_bx w lv x) (xt_bx h lv y) from c161)]; rfl)
      · refine xt_iconst (v := nI 1) C dX4_describe_164 rfl ?_
        refine xt_goto (tgt := 169) C dX4_describe_165 (by decide) ?_
        refine xt_cSNn C ms_X5_put lkX4_91 (ct_put (by decide) (xt_cl38 _) (by decide) (by omega)) rfl (by decide) rfl (Nat.le_of_ble_eq_true rfl) dX4_describe_169 ?_
        refine xt_vret C dX4_describe_172 ⟨by decide, by decide⟩ ?_
        refine ⟨rfl, ?_⟩
        unfold xt_dsc
        rw [hdn, Nat.mul_comm 10 lv]
        first
        | (rw [xt_b1 (show xt_mk (S.2.1 3) c lf tp w h _ (xt_bx w lv x) (xt_bx h lv y) from c161)]; rfl)
        | (rw [xt_b0 (show ¬ xt_mk (S.2.1 3) c lf tp w h _ (xt_bx w lv x) (xt_bx h lv y) from c161)]; rfl)
    · have hdn : xt_dn dp lv = dp := by unfold xt_dn; exact if_pos (by omega)
      have hb1 := bxw.1
      have hb2 := bxh.1
      have hb3 := hdn9
      rw [hdn] at hb1 hb2 hb3
      refine xt_aload_n C dX4_describe_149 rfl ?_
      refine xt_get (f := 4) C xt_u4 rfl (by decide) (xt_cl33 _ _) (by decide) lkX4_68 (xt_vI t4) dX4_describe_150 ?_
      refine xt_goto (tgt := 158) C dX4_describe_153 (by decide) ?_
      refine xt_cV C mv_X4_isMade lkX4_110 (ct_isMade (by exact hT9) (by exact hP9) (by exact hk) hlw hth hb3 hb1 hb2 (by omega) (by omega)) rfl (by decide) (xt_cl33 _ _) rfl (by decide) rfl (Nat.le_of_ble_eq_true rfl) dX4_describe_158 ?_
      refine xt_if_eqB (tgt := 168) C dX4_describe_161 (by decide) (fun c161 => ?_) (fun c161 => ?_)
      · refine xt_iconst (v := nI 0) C dX4_describe_168 rfl ?_
        refine xt_cSNn C ms_X5_put lkX4_91 (ct_put (by decide) (xt_cl38 _) (by decide) (by omega)) rfl (by decide) rfl (Nat.le_of_ble_eq_true rfl) dX4_describe_169 ?_
        refine xt_vret C dX4_describe_172 ⟨by decide, by decide⟩ ?_
        refine ⟨rfl, ?_⟩
        unfold xt_dsc
        rw [hdn, Nat.mul_comm 10 lv]
        first
        | (rw [xt_b1 (show xt_mk (S.2.1 3) c lf tp w h _ (xt_bx w lv x) (xt_bx h lv y) from c161)]; rfl)
        | (rw [xt_b0 (show ¬ xt_mk (S.2.1 3) c lf tp w h _ (xt_bx w lv x) (xt_bx h lv y) from c161)]; rfl)
      · refine xt_iconst (v := nI 1) C dX4_describe_164 rfl ?_
        refine xt_goto (tgt := 169) C dX4_describe_165 (by decide) ?_
        refine xt_cSNn C ms_X5_put lkX4_91 (ct_put (by decide) (xt_cl38 _) (by decide) (by omega)) rfl (by decide) rfl (Nat.le_of_ble_eq_true rfl) dX4_describe_169 ?_
        refine xt_vret C dX4_describe_172 ⟨by decide, by decide⟩ ?_
        refine ⟨rfl, ?_⟩
        unfold xt_dsc
        rw [hdn, Nat.mul_comm 10 lv]
        first
        | (rw [xt_b1 (show xt_mk (S.2.1 3) c lf tp w h _ (xt_bx w lv x) (xt_bx h lv y) from c161)]; rfl)
        | (rw [xt_b0 (show ¬ xt_mk (S.2.1 3) c lf tp w h _ (xt_bx w lv x) (xt_bx h lv y) from c161)]; rfl)
  have J52 : ∀ (q9 : Nat), q9 = 0 → xt_X E cx (xt_ZM E cx 0 0 (xt_Eq none (xt_dsc S c lf tp w h dp x y lv))) 0 0 52 [some (.ref (E.1 33)), some (.ref (E.1 1)), some (.int (nI x)), some (.int (nI y)), some (.int (nI lv)), some (.int (nI (xt_bx w lv x))), some (.int (nI y)), some (.int (nI (xt_kx w lv x))), none] [] S := by
    intro q9 hq9
    refine xt_iload C dX4_describe_52 rfl ?_
    refine xt_if_leN (tgt := 87) C dX4_describe_54 (by decide) (by omega) (fun c54 => ?_) (fun c54 => ?_)
    · have h9 := J87 0 rfl
      first
      | rw [show xt_bx h lv y = y from if_neg (by omega), show xt_kx w lv x + 2 * xt_kx h lv y = xt_kx w lv x from by rw [show xt_kx h lv y = 0 from if_neg (by omega)]; rfl] at h9
      | rw [show xt_bx h lv y = y - xt_lo h lv from if_pos (by omega), show xt_kx w lv x + 2 * xt_kx h lv y = xt_kx w lv x + 2 from by rw [show xt_kx h lv y = 1 from if_pos (by omega)]] at h9
      exact xt_fg (by repeat' constructor) h9
    · refine xt_iload_n C dX4_describe_57 rfl ?_
      refine xt_aload_n C dX4_describe_58 rfl ?_
      refine xt_get (f := 3) C xt_u4 rfl (by decide) (xt_cl33 _ _) (by decide) lkX4_61 (xt_vI t3) dX4_describe_59 ?_
      refine xt_iload C dX4_describe_62 rfl ?_
      refine xt_cS C ms_X4_lows lkX4_74 (ct_lows (by omega) (by omega)) rfl (by decide) rfl (Nat.le_of_ble_eq_true rfl) dX4_describe_64 ?_
      refine xt_icmp_ltN (tgt := 87) C dX4_describe_67 (by decide) (by omega) (by omega) (fun c67 => ?_) (fun c67 => ?_)
      · have h9 := J87 0 rfl
        first
        | rw [show xt_bx h lv y = y from if_neg (by omega), show xt_kx w lv x + 2 * xt_kx h lv y = xt_kx w lv x from by rw [show xt_kx h lv y = 0 from if_neg (by omega)]; rfl] at h9
        | rw [show xt_bx h lv y = y - xt_lo h lv from if_pos (by omega), show xt_kx w lv x + 2 * xt_kx h lv y = xt_kx w lv x + 2 from by rw [show xt_kx h lv y = 1 from if_pos (by omega)]] at h9
        exact xt_fg (by repeat' constructor) h9
      · refine xt_iincN (z := 2) (lo' := [_, _, _, _, _, _, _, _, _]) C dX4_describe_70 rfl rfl rfl ?_
        refine xt_iload C dX4_describe_73 rfl ?_
        refine xt_aload_n C dX4_describe_75 rfl ?_
        refine xt_get (f := 3) C xt_u4 rfl (by decide) (xt_cl33 _ _) (by decide) lkX4_61 (xt_vI t3) dX4_describe_76 ?_
        refine xt_iload C dX4_describe_79 rfl ?_
        refine xt_cS C ms_X4_lows lkX4_74 (ct_lows (by omega) (by omega)) rfl (by decide) rfl (Nat.le_of_ble_eq_true rfl) dX4_describe_81 ?_
        refine xt_isubN C dX4_describe_84 (by omega) ?_
        refine xt_istore (lo' := [_, _, _, _, _, _, _, _, _]) C dX4_describe_85 (Nat.le_of_ble_eq_true rfl) rfl rfl ?_
        have h9 := J87 0 rfl
        first
        | rw [show xt_bx h lv y = y from if_neg (by omega), show xt_kx w lv x + 2 * xt_kx h lv y = xt_kx w lv x from by rw [show xt_kx h lv y = 0 from if_neg (by omega)]; rfl] at h9
        | rw [show xt_bx h lv y = y - xt_lo h lv from if_pos (by omega), show xt_kx w lv x + 2 * xt_kx h lv y = xt_kx w lv x + 2 from by rw [show xt_kx h lv y = 1 from if_pos (by omega)]] at h9
        exact xt_fg (by repeat' constructor) h9
  refine xt_aload_n C dX4_describe_0 rfl ?_
  refine xt_iload_n C dX4_describe_1 rfl ?_
  refine xt_iload_n C dX4_describe_2 rfl ?_
  refine xt_cV C mv_X4_levelAt lkX4_103 (xt_ct_rw hlvq (ct_levelAt (by exact hT9) (by omega) (by omega))) rfl (by decide) (xt_cl33 _ _) rfl (by decide) rfl (Nat.le_of_ble_eq_true rfl) dX4_describe_3 ?_
  refine xt_istore (lo' := [_, _, _, _, _, _, _, _, _]) C dX4_describe_6 (Nat.le_of_ble_eq_true rfl) rfl rfl ?_
  refine xt_iload_n C dX4_describe_8 rfl ?_
  refine xt_istore (lo' := [_, _, _, _, _, _, _, _, _]) C dX4_describe_9 (Nat.le_of_ble_eq_true rfl) rfl rfl ?_
  refine xt_iload_n C dX4_describe_11 rfl ?_
  refine xt_istore (lo' := [_, _, _, _, _, _, _, _, _]) C dX4_describe_12 (Nat.le_of_ble_eq_true rfl) rfl rfl ?_
  refine xt_iconst (v := nI 0) C dX4_describe_14 rfl ?_
  refine xt_istore (lo' := [_, _, _, _, _, _, _, _, _]) C dX4_describe_15 (Nat.le_of_ble_eq_true rfl) rfl rfl ?_
  refine xt_iload C dX4_describe_17 rfl ?_
  refine xt_if_leN (tgt := 52) C dX4_describe_19 (by decide) (by omega) (fun c19 => ?_) (fun c19 => ?_)
  · have h9 := J52 0 rfl
    first
    | rw [show xt_bx w lv x = x from if_neg (by omega), show xt_kx w lv x = 0 from if_neg (by omega)] at h9
    | rw [show xt_bx w lv x = x - xt_lo w lv from if_pos (by omega), show xt_kx w lv x = 0 + 1 from if_pos (by omega)] at h9
    exact xt_fg (by repeat' constructor) h9
  · refine xt_iload_n C dX4_describe_22 rfl ?_
    refine xt_aload_n C dX4_describe_23 rfl ?_
    refine xt_get (f := 2) C xt_u4 rfl (by decide) (xt_cl33 _ _) (by decide) lkX4_55 (xt_vI t2) dX4_describe_24 ?_
    refine xt_iload C dX4_describe_27 rfl ?_
    refine xt_cS C ms_X4_lows lkX4_74 (ct_lows (by omega) (by omega)) rfl (by decide) rfl (Nat.le_of_ble_eq_true rfl) dX4_describe_29 ?_
    refine xt_icmp_ltN (tgt := 52) C dX4_describe_32 (by decide) (by omega) (by omega) (fun c32 => ?_) (fun c32 => ?_)
    · have h9 := J52 0 rfl
      first
      | rw [show xt_bx w lv x = x from if_neg (by omega), show xt_kx w lv x = 0 from if_neg (by omega)] at h9
      | rw [show xt_bx w lv x = x - xt_lo w lv from if_pos (by omega), show xt_kx w lv x = 0 + 1 from if_pos (by omega)] at h9
      exact xt_fg (by repeat' constructor) h9
    · refine xt_iincN (z := 1) (lo' := [_, _, _, _, _, _, _, _, _]) C dX4_describe_35 rfl rfl rfl ?_
      refine xt_iload C dX4_describe_38 rfl ?_
      refine xt_aload_n C dX4_describe_40 rfl ?_
      refine xt_get (f := 2) C xt_u4 rfl (by decide) (xt_cl33 _ _) (by decide) lkX4_55 (xt_vI t2) dX4_describe_41 ?_
      refine xt_iload C dX4_describe_44 rfl ?_
      refine xt_cS C ms_X4_lows lkX4_74 (ct_lows (by omega) (by omega)) rfl (by decide) rfl (Nat.le_of_ble_eq_true rfl) dX4_describe_46 ?_
      refine xt_isubN C dX4_describe_49 (by omega) ?_
      refine xt_istore (lo' := [_, _, _, _, _, _, _, _, _]) C dX4_describe_50 (Nat.le_of_ble_eq_true rfl) rfl rfl ?_
      have h9 := J52 0 rfl
      first
      | rw [show xt_bx w lv x = x from if_neg (by omega), show xt_kx w lv x = 0 from if_neg (by omega)] at h9
      | rw [show xt_bx w lv x = x - xt_lo w lv from if_pos (by omega), show xt_kx w lv x = 0 + 1 from if_pos (by omega)] at h9
      exact xt_fg (by repeat' constructor) h9
end XC9
