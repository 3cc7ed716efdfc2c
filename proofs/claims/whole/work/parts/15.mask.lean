/-! THE TILE: THE MASK, A PLACE'S DESCRIPTION -/
section XC8
variable {E : xt_Ev} {l : Launch} {S : xt_St}
theorem xt_01 {f : Nat → Int32} : ∀ (n a : Nat), (∀ i, i < n → f i = nI 0 ∨ f i = nI 1) → ∃ m, m ≤ n ∧ xt_it (fun i s => s + f i) n (nI a) = nI (a + m) ∧ (0 < m ↔ ∃ i, i < n ∧ f i = nI 1) := by
  intro n a
  induction n with
  | zero => intro _; exact ⟨0, Nat.le_refl _, rfl, by omega, fun ⟨i, h, _⟩ => absurd h (Nat.not_lt_zero _)⟩
  | succ n ih =>
    intro h
    obtain ⟨m, h1, h2, h3⟩ := ih (fun i hi => h i (by omega))
    show ∃ m, m ≤ n + 1 ∧ xt_it (fun i s => s + f i) n (nI a) + f n = nI (a + m) ∧ _
    rw [h2]
    rcases h n (by omega) with e | e
    · refine ⟨m, by omega, by rw [e, nI_add, Nat.add_zero], ?_⟩
      rw [h3]
      constructor
      · rintro ⟨i, g1, g2⟩; exact ⟨i, by omega, g2⟩
      · rintro ⟨i, g1, g2⟩
        rcases Nat.lt_succ_iff_lt_or_eq.mp g1 with g | rfl
        · exact ⟨i, g, g2⟩
        · rw [e] at g2; exact absurd g2 (by decide)
    · exact ⟨m + 1, by omega, by rw [e, nI_add]; rfl, fun _ => ⟨n, by omega, e⟩, fun _ => by omega⟩
theorem xt_01b {g : Nat → Nat → Int32} {w : Nat} : ∀ (h a : Nat), (∀ y x, y < h → x < w → g y x = nI 0 ∨ g y x = nI 1) → ∃ m, m ≤ h * w ∧ xt_it (fun y s => xt_it (fun x s => s + g y x) w s) h (nI a) = nI (a + m) ∧ (0 < m ↔ ∃ y x, y < h ∧ x < w ∧ g y x = nI 1) := by
  intro h a
  induction h with
  | zero => intro _; exact ⟨0, by omega, rfl, by omega, fun ⟨y, x, h, _⟩ => absurd h (Nat.not_lt_zero _)⟩
  | succ h ih =>
    intro hg
    obtain ⟨m, h1, h2, h3⟩ := ih (fun y x hy hx => hg y x (by omega) hx)
    obtain ⟨m2, g1, g2, g3⟩ := xt_01 (f := fun x => g h x) w (a + m) (fun x hx => hg h x (by omega) hx)
    refine ⟨m + m2, by rw [Nat.succ_mul]; omega, ?_, ?_⟩
    · show xt_it (fun x s => s + g h x) w (xt_it (fun y s => xt_it (fun x s => s + g y x) w s) h (nI a)) = _
      rw [h2, g2, Nat.add_assoc]
    · constructor
      · intro hm
        by_cases hm1 : 0 < m
        · obtain ⟨y, x, e1, e2, e3⟩ := h3.mp hm1
          exact ⟨y, x, by omega, e2, e3⟩
        · obtain ⟨x, e1, e2⟩ := g3.mp (by omega)
          exact ⟨h, x, by omega, e1, e2⟩
      · rintro ⟨y, x, e1, e2, e3⟩
        rcases Nat.lt_succ_iff_lt_or_eq.mp e1 with z | rfl
        · have := h3.mpr ⟨y, x, z, e2, e3⟩; omega
        · have := g3.mpr ⟨x, e2, e3⟩; omega
theorem xt_sum2_01 {f : Nat → Int32} {c lf tp w h : Nat} (hs : h * w < 2 ^ 31) (hf : ∀ y x, y < h → x < w → f ((tp + y) * c + (lf + x)) = nI 0 ∨ f ((tp + y) * c + (lf + x)) = nI 1) : (¬ xt_sum2 f c lf tp w h ≤ 0) ↔ ∃ y x, y < h ∧ x < w ∧ f ((tp + y) * c + (lf + x)) = nI 1 := by
  obtain ⟨m, h1, h2, h3⟩ := xt_01b (g := fun y x => f ((tp + y) * c + (lf + x))) h 0 hf
  unfold xt_sum2
  rw [show (0 : Int32) = nI 0 from rfl, h2, ← h3, Nat.zero_add]
  constructor
  · intro z
    rcases Nat.eq_zero_or_pos m with rfl | g
    · exact absurd (by decide) z
    · exact g
  · intro z
    exact nI_nle z (by omega)
/-- a place of a band, so many levels down, is made of a masked pixel -/
def xt_mk (k : Nat → Int32) (c lf tp w h lv bc br : Nat) : Prop := ∃ j i, br * 2 ^ lv ≤ j ∧ j < min h ((br + 1) * 2 ^ lv) ∧ bc * 2 ^ lv ≤ i ∧ i < min w ((bc + 1) * 2 ^ lv) ∧ k ((tp + j) * c + (lf + i)) = nI 1
set_option maxRecDepth 20000 in
set_option maxHeartbeats 2000000 in
theorem ct_isMade {lf tp w h dp bo : Nat} (hT : xt_Tn S lf tp w h dp bo) {c r sd lv bo : Nat} (hP : xt_Pic S 1 c r sd lv bo) (hk : ∀ j, j < 256 → S.2.1 3 j = nI 0 ∨ S.2.1 3 j = nI 1) (hlw : lf + w ≤ c) (hth : tp + h ≤ r) {lv bc br : Nat} (hlv : lv ≤ 3) (h1 : bc * 2 ^ lv < w) (h2 : br * 2 ^ lv < h) (hbc : bc < 8) (hbr : br < 8) : xt_Ct E l yX4_isMade cX4_isMade 9 (some Jvm.ClassFile.FieldType.boolean) 2 50 0 0 [.ref (E.1 33), .ref (E.1 1), .int (nI bc), .int (nI br), .int (nI lv)] S (xt_Eq (some (.int (xt_b (xt_mk (S.2.1 3) c lf tp w h lv bc br)))) S) := by
  refine xt_body (by decide +kernel) (xt_all rfl) (Nat.le_of_ble_eq_true rfl) (fun cx C hl9 => ?_)
  show xt_X E cx _ 0 0 0 [some (.ref (E.1 33)), some (.ref (E.1 1)), some (.int (nI bc)), some (.int (nI br)), some (.int (nI lv)), none, none, none, none] [] S
  have hT9 := hT
  obtain ⟨t0, t1, t2, t3, t4, t5, g1, g2, g3, g4, g5, g6⟩ := hT
  have hP9 := hP
  obtain ⟨hc, hr, hs, hv, hb, b1, b2, b3, b4, b5, b6, b7⟩ := hP
  have hk2 := xt_2k (k := lv) (by omega)
  have e1 : (bc + 1) * 2 ^ lv = bc * 2 ^ lv + 2 ^ lv := Nat.succ_mul _ _
  have e2 : (br + 1) * 2 ^ lv = br * 2 ^ lv + 2 ^ lv := Nat.succ_mul _ _
  obtain ⟨mx, hmx⟩ : ∃ z, min w ((bc + 1) * 2 ^ lv) = z := ⟨_, rfl⟩
  obtain ⟨my, hmy⟩ : ∃ z, min h ((br + 1) * 2 ^ lv) = z := ⟨_, rfl⟩
  obtain ⟨a9, ha9⟩ : ∃ z, bc * 2 ^ lv = z := ⟨_, rfl⟩
  obtain ⟨b9, hb9⟩ : ∃ z, br * 2 ^ lv = z := ⟨_, rfl⟩
  rw [ha9] at h1 e1
  rw [hb9] at h2 e2
  have hmx1 : a9 < mx ∧ mx ≤ w := by omega
  have hmy1 : b9 < my ∧ my ≤ h := by omega
  have hres : (¬ xt_sum2 (S.2.1 3) c (lf + a9) (tp + b9) (mx - a9) (my - b9) ≤ 0) ↔ xt_mk (S.2.1 3) c lf tp w h lv bc br := by
    rw [xt_sum2_01 (Nat.lt_of_le_of_lt (Nat.mul_le_mul (show my - b9 ≤ 8 by omega) (show mx - a9 ≤ 8 by omega)) (by decide)) (fun y x g8 g9 => hk _ (xt_ix (c := c) (r := r) (by omega) (by omega) b2 b4).1)]
    unfold xt_mk
    rw [hmx, hmy, ha9, hb9]
    constructor
    · rintro ⟨y, x, z1, z2, z3⟩
      exact ⟨b9 + y, a9 + x, by omega, by omega, by omega, by omega, by rw [show tp + (b9 + y) = tp + b9 + y by omega, show lf + (a9 + x) = lf + a9 + x by omega]; exact z3⟩
    · rintro ⟨j, i, z1, z2, z3, z4, z5⟩
      exact ⟨j - b9, i - a9, by omega, by omega, by rw [show tp + b9 + (j - b9) = tp + j by omega, show lf + a9 + (i - a9) = lf + i by omega]; exact z5⟩
  refine xt_iload_n C dX4_isMade_0 rfl ?_
  refine xt_iload C dX4_isMade_1 rfl ?_
  refine xt_ishlN C dX4_isMade_3 (by omega) (by omega) ?_
  rw [ha9]
  refine xt_istore (lo' := [_, _, _, _, _, _, _, _, _]) C dX4_isMade_4 (Nat.le_of_ble_eq_true rfl) rfl rfl ?_
  refine xt_iload_n C dX4_isMade_6 rfl ?_
  refine xt_iload C dX4_isMade_7 rfl ?_
  refine xt_ishlN C dX4_isMade_9 (by omega) (by omega) ?_
  rw [hb9]
  refine xt_istore (lo' := [_, _, _, _, _, _, _, _, _]) C dX4_isMade_10 (Nat.le_of_ble_eq_true rfl) rfl rfl ?_
  refine xt_aload_n C dX4_isMade_12 rfl ?_
  refine xt_get (f := 2) C xt_u4 rfl (by decide) (xt_cl33 _ _) (by decide) lkX4_55 (xt_vI t2) dX4_isMade_13 ?_
  refine xt_iload_n C dX4_isMade_16 rfl ?_
  refine xt_iconst (v := nI 1) C dX4_isMade_17 rfl ?_
  refine xt_iaddN C dX4_isMade_18 ?_
  refine xt_iload C dX4_isMade_19 rfl ?_
  refine xt_ishlN C dX4_isMade_21 (by omega) (by omega) ?_
  refine xt_mmin C lkX4_114 mw_min rfl ⟨by decide, Nat.le_of_ble_eq_true rfl, by decide, by decide⟩ dX4_isMade_22 ?_
  rw [xt_min (by omega) (by omega), hmx]
  refine xt_istore (lo' := [_, _, _, _, _, _, _, _, _]) C dX4_isMade_25 (Nat.le_of_ble_eq_true rfl) rfl rfl ?_
  refine xt_aload_n C dX4_isMade_27 rfl ?_
  refine xt_get (f := 3) C xt_u4 rfl (by decide) (xt_cl33 _ _) (by decide) lkX4_61 (xt_vI t3) dX4_isMade_28 ?_
  refine xt_iload_n C dX4_isMade_31 rfl ?_
  refine xt_iconst (v := nI 1) C dX4_isMade_32 rfl ?_
  refine xt_iaddN C dX4_isMade_33 ?_
  refine xt_iload C dX4_isMade_34 rfl ?_
  refine xt_ishlN C dX4_isMade_36 (by omega) (by omega) ?_
  refine xt_mmin C lkX4_114 mw_min rfl ⟨by decide, Nat.le_of_ble_eq_true rfl, by decide, by decide⟩ dX4_isMade_37 ?_
  rw [xt_min (by omega) (by omega), hmy]
  refine xt_istore (lo' := [_, _, _, _, _, _, _, _, _]) C dX4_isMade_40 (Nat.le_of_ble_eq_true rfl) rfl rfl ?_
  refine xt_aload_n C dX4_isMade_42 rfl ?_
  refine xt_aload_n C dX4_isMade_43 rfl ?_
  refine xt_getN (f := 6) C xt_u1 rfl (by decide) (xt_cl1 _ _) (by decide) lkX4_119 rfl dX4_isMade_44 ?_
  refine xt_aload_n C dX4_isMade_47 rfl ?_
  refine xt_get (f := 0) C xt_u4 rfl (by decide) (xt_cl33 _ _) (by decide) lkX4_42 (xt_vI t0) dX4_isMade_48 ?_
  refine xt_iload C dX4_isMade_51 rfl ?_
  refine xt_iaddN C dX4_isMade_53 ?_
  refine xt_aload_n C dX4_isMade_54 rfl ?_
  refine xt_get (f := 1) C xt_u4 rfl (by decide) (xt_cl33 _ _) (by decide) lkX4_49 (xt_vI t1) dX4_isMade_55 ?_
  refine xt_iload C dX4_isMade_58 rfl ?_
  refine xt_iaddN C dX4_isMade_60 ?_
  refine xt_aload_n C dX4_isMade_61 rfl ?_
  refine xt_get (f := 0) C xt_u4 rfl (by decide) (xt_cl33 _ _) (by decide) lkX4_42 (xt_vI t0) dX4_isMade_62 ?_
  refine xt_iload C dX4_isMade_65 rfl ?_
  refine xt_iaddN C dX4_isMade_67 ?_
  rw [show lf + mx = lf + a9 + (mx - a9) from by omega]
  refine xt_aload_n C dX4_isMade_68 rfl ?_
  refine xt_get (f := 1) C xt_u4 rfl (by decide) (xt_cl33 _ _) (by decide) lkX4_49 (xt_vI t1) dX4_isMade_69 ?_
  refine xt_iload C dX4_isMade_72 rfl ?_
  refine xt_iaddN C dX4_isMade_74 ?_
  rw [show tp + my = tp + b9 + (my - b9) from by omega]
  refine xt_cVN C mv_X1_totalOf lkX4_120 (ct_totalOf (w := mx - a9) (h := my - b9) (by exact hP9) (by decide) (xt_cl3 _) (by omega) (by omega)) rfl (by decide) (xt_cl1 _ _) rfl (by decide) rfl (Nat.le_of_ble_eq_true rfl) dX4_isMade_75 ?_
  refine xt_if_le (tgt := 85) C dX4_isMade_78 (by decide) (fun c78 => ?_) (fun c78 => ?_)
  · refine xt_iconst (v := nI 0) C dX4_isMade_85 rfl ?_
    exact xt_zret C dX4_isMade_86 (by decide) ⟨by decide, by decide⟩ (by first | exact xt_q1 (hres.mp c78) | exact xt_q0 (fun z => absurd c78 (hres.mpr z)))
  · refine xt_iconst (v := nI 1) C dX4_isMade_81 rfl ?_
    refine xt_goto (tgt := 86) C dX4_isMade_82 (by decide) ?_
    exact xt_zret C dX4_isMade_86 (by decide) ⟨by decide, by decide⟩ (by first | exact xt_q1 (hres.mp c78) | exact xt_q0 (fun z => absurd c78 (hres.mpr z)))
end XC8
