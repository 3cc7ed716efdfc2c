/-! the calls that change nothing, both sides -/
section XL3
theorem xt_fr_eq {S T : xt_St} (h : T = S) : xt_fr S T := by
  subst h
  exact xt_fr_rf
theorem xt_ctx {S : xt_St} (hI : xt_Inv S) : ∃ A c r sd lv bo, xt_GA A ∧ xt_CR S A ∧ xt_MR S A ∧ xt_Gp A.pic c r sd lv bo ∧ xt_Pic S 1 c r sd lv bo ∧ (∀ j, j < 256 → ∃ m, m ≤ 255 ∧ S.2.1 2 j = nI m) ∧ (∀ j, j < 256 → S.2.1 3 j = nI 0 ∨ S.2.1 3 j = nI 1) ∧
    ∀ S', xt_mf S S' → xt_Mp S' c r sd lv bo ∧ (∀ j, j < 256 → xt_mV S' j = S.2.1 2 j) ∧ (∀ j, j < 256 → xt_mK S' j = S.2.1 3 j) := by
  obtain ⟨A, hA, hc, hm⟩ := hI
  obtain ⟨c, r, sd, lv, bo, hg⟩ := hA.1
  obtain ⟨hP, hv, hk⟩ := xt_CR_Pic hc hg
  refine ⟨A, c, r, sd, lv, bo, hA, hc, hm, hg, hP, fun j hj => ?_, fun j hj => ?_, fun S' h9 => ?_⟩
  · rw [hv j hj]; exact hg.2.1 j hj
  · rw [hk j hj]; exact hg.2.2 j hj
  · obtain ⟨f1, f2, f3⟩ := xt_MR_Mp (xt_MR_of h9 hm) hg
    exact ⟨f1, fun j hj => (f2 j hj).trans (hv j hj).symm, fun j hj => (f3 j hj).trans (hk j hj).symm⟩
theorem xt_toI {a : Int32} {n : Nat} (hn : n < 2 ^ 31) (h0 : 0 ≤ a.toInt) (h1 : a.toInt ≤ n) : ∃ j, j ≤ n ∧ a = nI j := by
  refine ⟨a.toInt.toNat, by omega, Int32.toInt_inj.mp ?_⟩
  rw [nI_toInt (by omega)]
  omega
theorem xt_rng {p : Int32} {n : Nat} (hn : n < 2 ^ 31) (h : nI 0 ≤ p ∧ p ≤ nI n) : ∃ j, j ≤ n ∧ p = nI j := by
  have h1 := Int32.le_iff_toInt_le.mp h.1
  have h2 := Int32.le_iff_toInt_le.mp h.2
  rw [nI_toInt (by decide)] at h1
  rw [nI_toInt hn] at h2
  exact xt_toI hn (by omega) h2
theorem xt_rngI {p : Int32} {n : Nat} (hn : n < 2 ^ 31) (h : ¬ (nI 0 ≤ p ∧ p ≤ nI n)) : p.toInt < 0 ∨ n < p.toInt := by
  rw [Int32.le_iff_toInt_le, Int32.le_iff_toInt_le, nI_toInt (by decide), nI_toInt hn] at h
  omega
theorem xt_rngJ {p : Int32} {n : Nat} (hn : n < 2 ^ 31) (h : p.toInt < 0 ∨ n < p.toInt) : ¬ (nI 0 ≤ p ∧ p ≤ nI n) := by
  rw [Int32.le_iff_toInt_le, Int32.le_iff_toInt_le, nI_toInt (by decide), nI_toInt hn]
  omega
theorem xt_Pic_nt {S : xt_St} {c r sd lv bo : Nat} (hP : xt_Pic S 1 c r sd lv bo) : 1 ≤ xt_nt c r sd ∧ xt_nt c r sd ≤ 64 := by
  obtain ⟨-, -, -, -, -, h1, h2, h3, h4, h5, -⟩ := hP
  exact xt_nt_b ⟨h1, h2⟩ ⟨h3, h4⟩ h5
theorem xt_plb {c r sd t : Nat} {x y : Int32} (hnt : xt_nt c r sd ≤ 64) (ht : t < xt_nt c r sd) (hp : ¬ xt_pix (xt_gw c sd t) (xt_gh c r sd t) x y) : ¬ (∃ j, j < xt_nt c r sd ∧ nI t = nI j ∧ xt_pix (xt_gw c sd j) (xt_gh c r sd j) x y) := by
  rintro ⟨j, hj, e, h⟩
  have : t = j := (nI_eq (by omega) (by omega)).mp e
  subst this
  exact hp h
/-- as xt_Sp, of a double -/
def xt_SpD (W : (Option Value → xt_St → Prop) → Prop) (M : xt_St → (Option Value → xt_St → Prop) → Prop) : Prop :=
  ∃ (kk : Nat) (P1 : xt_St → Prop), kk < 4 ∧ W (fun v S' => v = some (.int (nI kk)) ∧ P1 S') ∧ ∀ S', P1 S' → ∃ (b : UInt64) (P2 : xt_St → Prop), M S' (fun v S'' => v = some (.double b) ∧ P2 S'') ∧ ∀ S'', P2 S'' → S''.1 49 0 = nI kk ∧ (kk = 0 → S''.2.2.2 68 0 = b ∧ FP.dcmp b b = some .eq) ∧ xt_Inv S''
variable {E : xt_Ev} {l : Launch} {S : xt_St}
abbrev xt_W_number (E : xt_Ev) (l : Launch) (S : xt_St) (a : Int32) : (Option Value → xt_St → Prop) → Prop := fun Q => xt_CtH E l yL_number cL_number 4 (some Jvm.ClassFile.FieldType.int) hh_L_number (7 + 1) (110 + 21) 1 6 [.ref (E.1 0), .int a, .ref (E.1 67)] S Q
abbrev xt_M_number (E : xt_Ev) (l : Launch) (a : Int32) : xt_St → (Option Value → xt_St → Prop) → Prop := fun S Q => xt_Ct E l yX6_number cX6_number 4 (some Jvm.ClassFile.FieldType.int) 3 60 0 0 [.ref (E.1 49), .int a] S Q
abbrev xt_W_pixel (E : xt_Ev) (l : Launch) (S : xt_St) (a b : Int32) : (Option Value → xt_St → Prop) → Prop := fun Q => xt_CtH E l yL_pixel cL_pixel 5 (some Jvm.ClassFile.FieldType.int) hh_L_pixel (7 + 1) (110 + 22) 1 6 [.ref (E.1 0), .int a, .int b, .ref (E.1 67)] S Q
abbrev xt_M_pixel (E : xt_Ev) (l : Launch) (a b : Int32) : xt_St → (Option Value → xt_St → Prop) → Prop := fun S Q => xt_Ct E l yX6_pixel cX6_pixel 3 (some Jvm.ClassFile.FieldType.int) 2 44 0 0 [.ref (E.1 49), .int a, .int b] S Q
abbrev xt_W_tileOf (E : xt_Ev) (l : Launch) (S : xt_St) (a b : Int32) : (Option Value → xt_St → Prop) → Prop := fun Q => xt_CtH E l yL_tileOf cL_tileOf 5 (some Jvm.ClassFile.FieldType.int) hh_L_tileOf (7 + 1) (110 + 22) 1 6 [.ref (E.1 0), .int a, .int b, .ref (E.1 67)] S Q
abbrev xt_M_tileOf (E : xt_Ev) (l : Launch) (a b : Int32) : xt_St → (Option Value → xt_St → Prop) → Prop := fun S Q => xt_Ct E l yX6_tileOf cX6_tileOf 3 (some Jvm.ClassFile.FieldType.int) 2 44 0 0 [.ref (E.1 49), .int a, .int b] S Q
abbrev xt_W_tile (E : xt_Ev) (l : Launch) (S : xt_St) (a b : Int32) : (Option Value → xt_St → Prop) → Prop := fun Q => xt_CtH E l yL_tile cL_tile 5 (some Jvm.ClassFile.FieldType.int) hh_L_tile (7 + 1) (131 + 22) 1 6 [.ref (E.1 0), .int a, .int b, .ref (E.1 67)] S Q
abbrev xt_M_tile (E : xt_Ev) (l : Launch) (a b : Int32) : xt_St → (Option Value → xt_St → Prop) → Prop := fun S Q => xt_Ct E l yX6_tile cX6_tile 6 (some Jvm.ClassFile.FieldType.int) 4 84 0 0 [.ref (E.1 49), .int a, .int b] S Q
abbrev xt_W_coefficient (E : xt_Ev) (l : Launch) (S : xt_St) (a b d : Int32) : (Option Value → xt_St → Prop) → Prop := fun Q => xt_CtH E l yL_coefficient cL_coefficient 6 (some Jvm.ClassFile.FieldType.int) hh_L_coefficient (7 + 1) (131 + 23) 1 6 [.ref (E.1 0), .int a, .int b, .int d, .ref (E.1 67)] S Q
abbrev xt_M_coefficient (E : xt_Ev) (l : Launch) (a b d : Int32) : xt_St → (Option Value → xt_St → Prop) → Prop := fun S Q => xt_Ct E l yX6_coefficient cX6_coefficient 4 (some Jvm.ClassFile.FieldType.int) 5 107 0 0 [.ref (E.1 49), .int a, .int b, .int d] S Q
abbrev xt_W_band (E : xt_Ev) (l : Launch) (S : xt_St) (a b d : Int32) : (Option Value → xt_St → Prop) → Prop := fun Q => xt_CtH E l yL_band cL_band 6 (some Jvm.ClassFile.FieldType.int) hh_L_band (7 + 1) (131 + 23) 1 6 [.ref (E.1 0), .int a, .int b, .int d, .ref (E.1 67)] S Q
abbrev xt_M_band (E : xt_Ev) (l : Launch) (a b d : Int32) : xt_St → (Option Value → xt_St → Prop) → Prop := fun S Q => xt_Ct E l yX6_band cX6_band 4 (some Jvm.ClassFile.FieldType.int) 5 107 0 0 [.ref (E.1 49), .int a, .int b, .int d] S Q
abbrev xt_W_layerOf (E : xt_Ev) (l : Launch) (S : xt_St) (a b d e : Int32) : (Option Value → xt_St → Prop) → Prop := fun Q => xt_CtH E l yL_layerOf cL_layerOf 7 (some Jvm.ClassFile.FieldType.int) hh_L_layerOf (7 + 1) (131 + 24) 1 6 [.ref (E.1 0), .int a, .int b, .int d, .int e, .ref (E.1 67)] S Q
abbrev xt_M_layerOf (E : xt_Ev) (l : Launch) (a b d e : Int32) : xt_St → (Option Value → xt_St → Prop) → Prop := fun S Q => xt_Ct E l yX6_layerOf cX6_layerOf 5 (some Jvm.ClassFile.FieldType.int) 5 107 0 0 [.ref (E.1 49), .int a, .int b, .int d, .int e] S Q
abbrev xt_W_bits (E : xt_Ev) (l : Launch) (S : xt_St) (a b : Int32) : (Option Value → xt_St → Prop) → Prop := fun Q => xt_CtH E l yL_bits cL_bits 5 (some Jvm.ClassFile.FieldType.int) hh_L_bits (7 + 1) (131 + 22) 1 6 [.ref (E.1 0), .int a, .int b, .ref (E.1 67)] S Q
abbrev xt_M_bits (E : xt_Ev) (l : Launch) (a b : Int32) : xt_St → (Option Value → xt_St → Prop) → Prop := fun S Q => xt_Ct E l yX6_bits cX6_bits 5 (some Jvm.ClassFile.FieldType.int) 4 84 0 0 [.ref (E.1 49), .int a, .int b] S Q
abbrev xt_W_descendants (E : xt_Ev) (l : Launch) (S : xt_St) (a b d : Int32) : (Option Value → xt_St → Prop) → Prop := fun Q => xt_CtH E l yL_descendants cL_descendants 6 (some Jvm.ClassFile.FieldType.int) hh_L_descendants (7 + 1) (131 + 23) 1 6 [.ref (E.1 0), .int a, .int b, .int d, .ref (E.1 67)] S Q
abbrev xt_M_descendants (E : xt_Ev) (l : Launch) (a b d : Int32) : xt_St → (Option Value → xt_St → Prop) → Prop := fun S Q => xt_Ct E l yX6_descendants cX6_descendants 7 (some Jvm.ClassFile.FieldType.int) 5 107 0 0 [.ref (E.1 49), .int a, .int b, .int d] S Q
abbrev xt_W_roots (E : xt_Ev) (l : Launch) (S : xt_St) (a b : Int32) : (Option Value → xt_St → Prop) → Prop := fun Q => xt_CtH E l yL_roots cL_roots 5 (some Jvm.ClassFile.FieldType.int) hh_L_roots (7 + 1) (131 + 22) 1 6 [.ref (E.1 0), .int a, .int b, .ref (E.1 67)] S Q
abbrev xt_M_roots (E : xt_Ev) (l : Launch) (a b : Int32) : xt_St → (Option Value → xt_St → Prop) → Prop := fun S Q => xt_Ct E l yX6_roots cX6_roots 7 (some Jvm.ClassFile.FieldType.int) 4 101 0 0 [.ref (E.1 49), .int a, .int b] S Q
abbrev xt_W_needed (E : xt_Ev) (l : Launch) (S : xt_St) (a b : Int32) : (Option Value → xt_St → Prop) → Prop := fun Q => xt_CtH E l yL_needed cL_needed 5 (some Jvm.ClassFile.FieldType.int) hh_L_needed (7 + 1) (131 + 22) 1 6 [.ref (E.1 0), .int a, .int b, .ref (E.1 67)] S Q
abbrev xt_M_needed (E : xt_Ev) (l : Launch) (a b : Int32) : xt_St → (Option Value → xt_St → Prop) → Prop := fun S Q => xt_Ct E l yX6_needed cX6_needed 5 (some Jvm.ClassFile.FieldType.int) 3 61 0 0 [.ref (E.1 49), .int a, .int b] S Q
abbrev xt_W_decoded (E : xt_Ev) (l : Launch) (S : xt_St) (a b d : Int32) : (Option Value → xt_St → Prop) → Prop := fun Q => xt_CtH E l yL_decoded cL_decoded 6 (some Jvm.ClassFile.FieldType.int) hh_L_decoded (7 + 1) (131 + 23) 1 6 [.ref (E.1 0), .int a, .int b, .int d, .ref (E.1 67)] S Q
abbrev xt_M_decoded (E : xt_Ev) (l : Launch) (a b d : Int32) : xt_St → (Option Value → xt_St → Prop) → Prop := fun S Q => xt_Ct E l yX6_decoded cX6_decoded 4 (some Jvm.ClassFile.FieldType.int) 4 84 0 0 [.ref (E.1 49), .int a, .int b, .int d] S Q
abbrev xt_W_worst (E : xt_Ev) (l : Launch) (S : xt_St) (a b d : Int32) : (Option Value → xt_St → Prop) → Prop := fun Q => xt_CtH E l yL_worst cL_worst 6 (some Jvm.ClassFile.FieldType.int) hh_L_worst (7 + 1) (152 + 23) 1 6 [.ref (E.1 0), .int a, .int b, .int d, .ref (E.1 67)] S Q
abbrev xt_M_worst (E : xt_Ev) (l : Launch) (a b d : Int32) : xt_St → (Option Value → xt_St → Prop) → Prop := fun S Q => xt_Ct E l yX6_worst cX6_worst 4 (some Jvm.ClassFile.FieldType.int) 4 87 0 0 [.ref (E.1 49), .int a, .int b, .int d] S Q
abbrev xt_W_meanSquare (E : xt_Ev) (l : Launch) (S : xt_St) (a : Int32) : (Option Value → xt_St → Prop) → Prop := fun Q => xt_CtH E l yL_meanSquare cL_meanSquare 4 (some Jvm.ClassFile.FieldType.int) hh_L_meanSquare (7 + 1) (153 + 24) 1 6 [.ref (E.1 0), .int a, .ref (E.1 68)] S Q
abbrev xt_M_meanSquare (E : xt_Ev) (l : Launch) (a : Int32) : xt_St → (Option Value → xt_St → Prop) → Prop := fun S Q => xt_Ct E l yX6_meanSquare cX6_meanSquare 6 (some Jvm.ClassFile.FieldType.double) 4 84 0 0 [.ref (E.1 49), .int a] S Q
abbrev xt_W_planned (E : xt_Ev) (l : Launch) (S : xt_St) (a : Int32) : (Option Value → xt_St → Prop) → Prop := fun Q => xt_CtH E l yL_planned cL_planned 4 (some Jvm.ClassFile.FieldType.int) hh_L_planned (7 + 1) (110 + 21) 1 6 [.ref (E.1 0), .int a, .ref (E.1 67)] S Q
abbrev xt_M_planned (E : xt_Ev) (l : Launch) (a : Int32) : xt_St → (Option Value → xt_St → Prop) → Prop := fun S Q => xt_Ct E l yX6_planned cX6_planned 2 (some Jvm.ClassFile.FieldType.int) 1 22 0 0 [.ref (E.1 49), .int a] S Q
abbrev xt_W_faultPosition (E : xt_Ev) (l : Launch) (S : xt_St) : (Option Value → xt_St → Prop) → Prop := fun Q => xt_CtH E l yL_faultPosition cL_faultPosition 3 (some Jvm.ClassFile.FieldType.int) hh_L_faultPosition (7 + 1) (110 + 20) 1 6 [.ref (E.1 0), .ref (E.1 67)] S Q
abbrev xt_M_faultPosition (E : xt_Ev) (l : Launch) : xt_St → (Option Value → xt_St → Prop) → Prop := fun S Q => xt_Ct E l yX6_faultPosition cX6_faultPosition 1 (some Jvm.ClassFile.FieldType.int) 1 21 0 0 [.ref (E.1 49)] S Q
abbrev xt_W_refusal (E : xt_Ev) (l : Launch) (S : xt_St) (a : Int32) : (Option Value → xt_St → Prop) → Prop := fun Q => xt_CtH E l yL_refusal cL_refusal 4 (some Jvm.ClassFile.FieldType.int) hh_L_refusal (7 + 1) (110 + 21) 1 6 [.ref (E.1 0), .int a, .ref (E.1 67)] S Q
abbrev xt_M_refusal (E : xt_Ev) (l : Launch) (a : Int32) : xt_St → (Option Value → xt_St → Prop) → Prop := fun S Q => xt_Ct E l yX6_refusal cX6_refusal 2 (some Jvm.ClassFile.FieldType.int) 1 21 0 0 [.ref (E.1 49), .int a] S Q
theorem st_number (hst : l.stackTraces = false) (hI : xt_Inv S) (a : Int32) : xt_Sp (xt_W_number E l S a) (xt_M_number E l a) := by
  obtain ⟨A, c, r, sd, lv, bo, hA, hc, hm, hg, hP, hvr, hk, hF⟩ := xt_ctx hI
  have hnt := (xt_Pic_nt hP).2
  by_cases h : a.toInt < 0 ∨ 9 < a.toInt
  · skip
    refine xt_Sp_no (b := nI 0) hI 1 ⟨by decide, by decide⟩ (wr_number (ct_number_bad (Q := fun _ _ => False) hst h) (fun _ _ h9 => h9.elim) (fun X S9 h9 => by obtain ⟨rfl, rfl⟩ := h9; exact ⟨rfl, rfl, xt_fr_rf⟩)) (fun S9 c9 m9 => ?_)
    obtain ⟨f1, f2, f3⟩ := hF S9 m9
    exact ct_mnumber_b h
  · obtain ⟨j, hj, rfl⟩ := xt_toI (a := a) (n := 9) (by decide) (by omega) (by omega)
    refine xt_Sp_ro hI _ (wr_number (ct_number_ok (QX := fun _ _ => False) hP (j := j) (by omega)) (fun v S9 h9 => ⟨_, h9.1, rfl, _, xt_fr_eq h9.2, rfl⟩) (fun _ _ h9 => h9.elim)) (fun S9 c9 m9 => ?_)
    obtain ⟨f1, f2, f3⟩ := hF S9 m9
    rw [xt_num_F]
    have e1 : S.1 7 2 = S9.1 49 3 := by
      obtain ⟨-, ⟨nx, ⟨-, b2, -⟩, -⟩, -⟩ := hc
      rw [m9.1 3 (by decide) (by decide) (by decide) (by decide), b2, hm.2.1.1]
    have e2 : S.1 46 1 = S9.1 49 8 := by
      rw [m9.1 8 (by decide) (by decide) (by decide) (by decide), hc.2.2.2.1.1, hm.2.2.2.1.1]
    rw [e1, e2]
    exact ct_mnumber f1 f2 f3 (by omega)
theorem st_pixel (hst : l.stackTraces = false) (hI : xt_Inv S) (a : Int32) (b : Int32) : xt_Sp (xt_W_pixel E l S a b) (xt_M_pixel E l a b) := by
  obtain ⟨A, c, r, sd, lv, bo, hA, hc, hm, hg, hP, hvr, hk, hF⟩ := xt_ctx hI
  have hnt := (xt_Pic_nt hP).2
  by_cases hb : xt_pix c r a b
  · obtain ⟨⟨x, hx, rfl⟩, y, hy, rfl⟩ := hb
    refine xt_Sp_ro hI _ (wr_pixel (ct_pixel_ok (QX := fun _ _ => False) hP hx hy) (fun v S9 h9 => ⟨_, h9.1, rfl, _, xt_fr_eq h9.2, rfl⟩) (fun _ _ h9 => h9.elim)) (fun S9 c9 m9 => ?_)
    obtain ⟨f1, f2, f3⟩ := hF S9 m9
    exact ct_mpixel f1 f2 hx hy
  · skip
    refine xt_Sp_no (b := nI 0) hI 1 ⟨by decide, by decide⟩ (wr_pixel (ct_pixel_bad (Q := fun _ _ => False) hst hP hb) (fun _ _ h9 => h9.elim) (fun X S9 h9 => by obtain ⟨rfl, rfl⟩ := h9; exact ⟨rfl, rfl, xt_fr_rf⟩)) (fun S9 c9 m9 => ?_)
    obtain ⟨f1, f2, f3⟩ := hF S9 m9
    exact ct_mpixel_b f1 hb
theorem st_tileOf (hst : l.stackTraces = false) (hI : xt_Inv S) (a : Int32) (b : Int32) : xt_Sp (xt_W_tileOf E l S a b) (xt_M_tileOf E l a b) := by
  obtain ⟨A, c, r, sd, lv, bo, hA, hc, hm, hg, hP, hvr, hk, hF⟩ := xt_ctx hI
  have hnt := (xt_Pic_nt hP).2
  by_cases hb : xt_pix c r a b
  · obtain ⟨⟨x, hx, rfl⟩, y, hy, rfl⟩ := hb
    refine xt_Sp_ro hI _ (wr_tileOf (ct_tileOf_ok (QX := fun _ _ => False) hP hx hy) (fun v S9 h9 => ⟨_, h9.1, rfl, _, xt_fr_eq h9.2, rfl⟩) (fun _ _ h9 => h9.elim)) (fun S9 c9 m9 => ?_)
    obtain ⟨f1, f2, f3⟩ := hF S9 m9
    exact ct_mtileOf f1 hx hy
  · skip
    refine xt_Sp_no (b := nI 0) hI 1 ⟨by decide, by decide⟩ (wr_tileOf (ct_tileOf_bad (Q := fun _ _ => False) hst hP hb) (fun _ _ h9 => h9.elim) (fun X S9 h9 => by obtain ⟨rfl, rfl⟩ := h9; exact ⟨rfl, rfl, xt_fr_rf⟩)) (fun S9 c9 m9 => ?_)
    obtain ⟨f1, f2, f3⟩ := hF S9 m9
    exact ct_mtileOf_b f1 hb
theorem st_needed (hst : l.stackTraces = false) (hI : xt_Inv S) (a : Int32) (b : Int32) : xt_Sp (xt_W_needed E l S a b) (xt_M_needed E l a b) := by
  obtain ⟨A, c, r, sd, lv, bo, hA, hc, hm, hg, hP, hvr, hk, hF⟩ := xt_ctx hI
  have hnt := (xt_Pic_nt hP).2
  by_cases hb : xt_pix c r a b
  · obtain ⟨⟨x, hx, rfl⟩, y, hy, rfl⟩ := hb
    refine xt_Sp_ro hI _ (wr_needed (ct_needed_ok (QX := fun _ _ => False) hP hk hx hy rfl) (fun v S9 h9 => ⟨_, h9.1, rfl, _, h9.2, rfl⟩) (fun _ _ h9 => h9.elim)) (fun S9 c9 m9 => ?_)
    obtain ⟨f1, f2, f3⟩ := hF S9 m9
    exact ct_mneeded f1 hx hy rfl
  · skip
    refine xt_Sp_no (b := nI 0) hI 1 ⟨by decide, by decide⟩ (wr_needed (ct_needed_bad (Q := fun _ _ => False) hst hP hb) (fun _ _ h9 => h9.elim) (fun X S9 h9 => by obtain ⟨rfl, rfl⟩ := h9; exact ⟨rfl, rfl, xt_fr_rf⟩)) (fun S9 c9 m9 => ?_)
    obtain ⟨f1, f2, f3⟩ := hF S9 m9
    exact ct_mneeded_b f1 hb
theorem st_tile (hst : l.stackTraces = false) (hI : xt_Inv S) (a : Int32) (b : Int32) : xt_Sp (xt_W_tile E l S a b) (xt_M_tile E l a b) := by
  obtain ⟨A, c, r, sd, lv, bo, hA, hc, hm, hg, hP, hvr, hk, hF⟩ := xt_ctx hI
  have hnt := (xt_Pic_nt hP).2
  by_cases ht : ∃ j, j < xt_nt c r sd ∧ a = nI j
  · by_cases h : b.toInt < 0 ∨ 8 < b.toInt
    · have ht9 := ht
      obtain ⟨t, ht, rfl⟩ := ht
      refine xt_Sp_no (b := nI 0) hI 2 ⟨by decide, by decide⟩ (wr_tile (ct_tile_bad2 (Q := fun _ _ => False) hst hP ht hk h) (fun _ _ h9 => h9.elim) (fun X S9 h9 => by obtain ⟨rfl, h8⟩ := h9; exact Or.inr ⟨rfl, rfl, h8⟩)) (fun S9 c9 m9 => ?_)
      obtain ⟨f1, f2, f3⟩ := hF S9 m9
      exact ct_mtile_b2 f1 ht9 (xt_rngJ (by decide) h)
    · obtain ⟨t, ht, rfl⟩ := ht
      obtain ⟨j, hj, rfl⟩ := xt_toI (a := b) (n := 8) (by decide) (by omega) (by omega)
      refine xt_Sp_ro hI _ (wr_tile (ct_tile_ok (QX := fun _ _ => False) hP ht hk (j := j) (by omega)) (fun v S9 h9 => ⟨_, h9.1, rfl, _, h9.2, rfl⟩) (fun _ _ h9 => h9.elim)) (fun S9 c9 m9 => ?_)
      obtain ⟨f1, f2, f3⟩ := hF S9 m9
      exact ct_mtile f1 ht f2 f3 hvr hk (by omega)
  · skip
    refine xt_Sp_no (b := nI 0) hI 1 ⟨by decide, by decide⟩ (wr_tile (ct_tile_bad1 (Q := fun _ _ => False) hst hP ht) (fun _ _ h9 => h9.elim) (fun X S9 h9 => by obtain ⟨rfl, rfl⟩ := h9; exact Or.inl ⟨rfl, rfl, xt_fr_rf⟩)) (fun S9 c9 m9 => ?_)
    obtain ⟨f1, f2, f3⟩ := hF S9 m9
    exact ct_mtile_b1 f1 ht
theorem st_coefficient (hst : l.stackTraces = false) (hI : xt_Inv S) (a : Int32) (b : Int32) (d : Int32) : xt_Sp (xt_W_coefficient E l S a b d) (xt_M_coefficient E l a b d) := by
  obtain ⟨A, c, r, sd, lv, bo, hA, hc, hm, hg, hP, hvr, hk, hF⟩ := xt_ctx hI
  have hnt := (xt_Pic_nt hP).2
  by_cases ht : ∃ j, j < xt_nt c r sd ∧ a = nI j
  · obtain ⟨t, ht, rfl⟩ := ht
    by_cases hp : xt_pix (xt_gw c sd t) (xt_gh c r sd t) b d
    · obtain ⟨⟨x, hx, rfl⟩, y, hy, rfl⟩ := hp
      refine xt_Sp_ro hI _ (wr_coefficient (ct_coefficient_ok (QX := fun _ _ => False) hP ht hk hx hy) (fun v S9 h9 => ⟨_, h9.1, rfl, _, h9.2, rfl⟩) (fun _ _ h9 => h9.elim)) (fun S9 c9 m9 => ?_)
      obtain ⟨f1, f2, f3⟩ := hF S9 m9
      exact ct_mcoefficient f1 ht f2 f3 hvr hk hx hy
    · skip
      refine xt_Sp_no (b := nI 0) hI 1 ⟨by decide, by decide⟩ (wr_coefficient (ct_coefficient_bad (Q := fun _ _ => False) hst hP (xt_plb hnt ht hp)) (fun _ _ h9 => h9.elim) (fun X S9 h9 => by obtain ⟨rfl, rfl⟩ := h9; exact ⟨rfl, rfl, xt_fr_rf⟩)) (fun S9 c9 m9 => ?_)
      obtain ⟨f1, f2, f3⟩ := hF S9 m9
      exact ct_mcoefficient_p f1 ht f2 f3 hvr hk hp
  · skip
    refine xt_Sp_no (b := nI 0) hI 1 ⟨by decide, by decide⟩ (wr_coefficient (ct_coefficient_bad (Q := fun _ _ => False) hst hP (fun ⟨j, h1, h2, _⟩ => ht ⟨j, h1, h2⟩)) (fun _ _ h9 => h9.elim) (fun X S9 h9 => by obtain ⟨rfl, rfl⟩ := h9; exact ⟨rfl, rfl, xt_fr_rf⟩)) (fun S9 c9 m9 => ?_)
    obtain ⟨f1, f2, f3⟩ := hF S9 m9
    exact ct_mcoefficient_t f1 ht
theorem st_band (hst : l.stackTraces = false) (hI : xt_Inv S) (a : Int32) (b : Int32) (d : Int32) : xt_Sp (xt_W_band E l S a b d) (xt_M_band E l a b d) := by
  obtain ⟨A, c, r, sd, lv, bo, hA, hc, hm, hg, hP, hvr, hk, hF⟩ := xt_ctx hI
  have hnt := (xt_Pic_nt hP).2
  by_cases ht : ∃ j, j < xt_nt c r sd ∧ a = nI j
  · obtain ⟨t, ht, rfl⟩ := ht
    by_cases hp : xt_pix (xt_gw c sd t) (xt_gh c r sd t) b d
    · obtain ⟨⟨x, hx, rfl⟩, y, hy, rfl⟩ := hp
      refine xt_Sp_ro hI _ (wr_band (ct_band_ok (QX := fun _ _ => False) hP ht hk hx hy) (fun v S9 h9 => ⟨_, h9.1, rfl, _, h9.2, rfl⟩) (fun _ _ h9 => h9.elim)) (fun S9 c9 m9 => ?_)
      obtain ⟨f1, f2, f3⟩ := hF S9 m9
      exact ct_mband f1 ht f2 f3 hvr hk hx hy
    · skip
      refine xt_Sp_no (b := nI 0) hI 1 ⟨by decide, by decide⟩ (wr_band (ct_band_bad (Q := fun _ _ => False) hst hP (xt_plb hnt ht hp)) (fun _ _ h9 => h9.elim) (fun X S9 h9 => by obtain ⟨rfl, rfl⟩ := h9; exact ⟨rfl, rfl, xt_fr_rf⟩)) (fun S9 c9 m9 => ?_)
      obtain ⟨f1, f2, f3⟩ := hF S9 m9
      exact ct_mband_p f1 ht f2 f3 hvr hk hp
  · skip
    refine xt_Sp_no (b := nI 0) hI 1 ⟨by decide, by decide⟩ (wr_band (ct_band_bad (Q := fun _ _ => False) hst hP (fun ⟨j, h1, h2, _⟩ => ht ⟨j, h1, h2⟩)) (fun _ _ h9 => h9.elim) (fun X S9 h9 => by obtain ⟨rfl, rfl⟩ := h9; exact ⟨rfl, rfl, xt_fr_rf⟩)) (fun S9 c9 m9 => ?_)
    obtain ⟨f1, f2, f3⟩ := hF S9 m9
    exact ct_mband_t f1 ht
theorem st_descendants (hst : l.stackTraces = false) (hI : xt_Inv S) (a : Int32) (b : Int32) (d : Int32) : xt_Sp (xt_W_descendants E l S a b d) (xt_M_descendants E l a b d) := by
  obtain ⟨A, c, r, sd, lv, bo, hA, hc, hm, hg, hP, hvr, hk, hF⟩ := xt_ctx hI
  have hnt := (xt_Pic_nt hP).2
  by_cases ht : ∃ j, j < xt_nt c r sd ∧ a = nI j
  · obtain ⟨t, ht, rfl⟩ := ht
    by_cases hp : xt_pix (xt_gw c sd t) (xt_gh c r sd t) b d
    · obtain ⟨⟨x, hx, rfl⟩, y, hy, rfl⟩ := hp
      refine xt_Sp_ro hI _ (wr_descendants (ct_descendants_ok (QX := fun _ _ => False) hP ht hk hx hy) (fun v S9 h9 => ⟨_, h9.1, rfl, _, h9.2, rfl⟩) (fun _ _ h9 => h9.elim)) (fun S9 c9 m9 => ?_)
      obtain ⟨f1, f2, f3⟩ := hF S9 m9
      exact ct_mdescendants f1 ht f2 f3 hvr hk hx hy
    · skip
      refine xt_Sp_no (b := nI 0) hI 1 ⟨by decide, by decide⟩ (wr_descendants (ct_descendants_bad (Q := fun _ _ => False) hst hP (xt_plb hnt ht hp)) (fun _ _ h9 => h9.elim) (fun X S9 h9 => by obtain ⟨rfl, rfl⟩ := h9; exact ⟨rfl, rfl, xt_fr_rf⟩)) (fun S9 c9 m9 => ?_)
      obtain ⟨f1, f2, f3⟩ := hF S9 m9
      exact ct_mdescendants_p f1 ht f2 f3 hvr hk hp
  · skip
    refine xt_Sp_no (b := nI 0) hI 1 ⟨by decide, by decide⟩ (wr_descendants (ct_descendants_bad (Q := fun _ _ => False) hst hP (fun ⟨j, h1, h2, _⟩ => ht ⟨j, h1, h2⟩)) (fun _ _ h9 => h9.elim) (fun X S9 h9 => by obtain ⟨rfl, rfl⟩ := h9; exact ⟨rfl, rfl, xt_fr_rf⟩)) (fun S9 c9 m9 => ?_)
    obtain ⟨f1, f2, f3⟩ := hF S9 m9
    exact ct_mdescendants_t f1 ht
theorem st_layerOf (hst : l.stackTraces = false) (hI : xt_Inv S) (a : Int32) (b : Int32) (d : Int32) (e : Int32) : xt_Sp (xt_W_layerOf E l S a b d e) (xt_M_layerOf E l a b d e) := by
  obtain ⟨A, c, r, sd, lv, bo, hA, hc, hm, hg, hP, hvr, hk, hF⟩ := xt_ctx hI
  have hnt := (xt_Pic_nt hP).2
  by_cases ht : ∃ j, j < xt_nt c r sd ∧ a = nI j
  · obtain ⟨t, ht, rfl⟩ := ht
    by_cases hp : xt_pix (xt_gw c sd t) (xt_gh c r sd t) b d
    · have hp9 : ∃ j, j < xt_nt c r sd ∧ nI t = nI j ∧ xt_pix (xt_gw c sd j) (xt_gh c r sd j) b d := ⟨t, ht, rfl, hp⟩
      obtain ⟨⟨x, hx, rfl⟩, y, hy, rfl⟩ := hp
      by_cases hq : nI 0 ≤ e ∧ e ≤ nI 8
      · obtain ⟨p, hp8, rfl⟩ := xt_rng (by decide) hq
        refine xt_Sp_ro hI _ (wr_layerOf (ct_layerOf_ok (QX := fun _ _ => False) hP ht hk hx hy hp8) (fun v S9 h9 => ⟨_, h9.1, rfl, _, h9.2, rfl⟩) (fun _ _ h9 => h9.elim)) (fun S9 c9 m9 => ?_)
        obtain ⟨f1, f2, f3⟩ := hF S9 m9
        exact ct_mlayerOf f1 ht f2 f3 hvr hk hx hy hp8
      · skip
        refine xt_Sp_no (b := nI 0) hI 2 ⟨by decide, by decide⟩ (wr_layerOf (ct_layerOf_bad2 (Q := fun _ _ => False) hst hP hp9 hq) (fun _ _ h9 => h9.elim) (fun X S9 h9 => by obtain ⟨rfl, rfl⟩ := h9; exact Or.inr ⟨rfl, rfl, xt_fr_rf⟩)) (fun S9 c9 m9 => ?_)
        obtain ⟨f1, f2, f3⟩ := hF S9 m9
        exact ct_mlayerOf_q f1 ht f2 f3 hvr hk hx hy hq
    · skip
      refine xt_Sp_no (b := nI 0) hI 1 ⟨by decide, by decide⟩ (wr_layerOf (ct_layerOf_bad1 (Q := fun _ _ => False) hst hP (xt_plb hnt ht hp)) (fun _ _ h9 => h9.elim) (fun X S9 h9 => by obtain ⟨rfl, rfl⟩ := h9; exact Or.inl ⟨rfl, rfl, xt_fr_rf⟩)) (fun S9 c9 m9 => ?_)
      obtain ⟨f1, f2, f3⟩ := hF S9 m9
      exact ct_mlayerOf_p f1 ht f2 f3 hvr hk hp
  · skip
    refine xt_Sp_no (b := nI 0) hI 1 ⟨by decide, by decide⟩ (wr_layerOf (ct_layerOf_bad1 (Q := fun _ _ => False) hst hP (fun ⟨j, h1, h2, _⟩ => ht ⟨j, h1, h2⟩)) (fun _ _ h9 => h9.elim) (fun X S9 h9 => by obtain ⟨rfl, rfl⟩ := h9; exact Or.inl ⟨rfl, rfl, xt_fr_rf⟩)) (fun S9 c9 m9 => ?_)
    obtain ⟨f1, f2, f3⟩ := hF S9 m9
    exact ct_mlayerOf_t f1 ht
theorem st_bits (hst : l.stackTraces = false) (hI : xt_Inv S) (a : Int32) (b : Int32) : xt_Sp (xt_W_bits E l S a b) (xt_M_bits E l a b) := by
  obtain ⟨A, c, r, sd, lv, bo, hA, hc, hm, hg, hP, hvr, hk, hF⟩ := xt_ctx hI
  have hnt := (xt_Pic_nt hP).2
  by_cases ht : ∃ j, j < xt_nt c r sd ∧ a = nI j
  · by_cases hl : -1 ≤ b ∧ b ≤ nI 8
    · obtain ⟨t, ht, rfl⟩ := ht
      by_cases h1 : b = -1
      · subst h1
        refine xt_Sp_ro hI _ (wr_bits (ct_bits_ok (QX := fun _ _ => False) hP ht hk hl) (fun v S9 h9 => ⟨_, h9.1, rfl, _, h9.2, rfl⟩) (fun _ _ h9 => h9.elim)) (fun S9 c9 m9 => ?_)
        obtain ⟨f1, f2, f3⟩ := hF S9 m9
        exact ct_mbits_all f1 ht f2 f3 hvr hk
      · have h2 : nI 0 ≤ b := by
          have a1 := Int32.le_iff_toInt_le.mp hl.1
          have a2 : ¬ b.toInt = (-1 : Int32).toInt := fun h => h1 (Int32.toInt_inj.mp h)
          rw [Int32.le_iff_toInt_le, nI_toInt (by decide)]
          have a3 : (-1 : Int32).toInt = -1 := by decide
          omega
        obtain ⟨p, hp8, rfl⟩ := xt_rng (by decide) ⟨h2, hl.2⟩
        refine xt_Sp_ro hI _ (wr_bits (ct_bits_ok (QX := fun _ _ => False) hP ht hk hl) (fun v S9 h9 => ⟨_, h9.1, rfl, _, h9.2, rfl⟩) (fun _ _ h9 => h9.elim)) (fun S9 c9 m9 => ?_)
        obtain ⟨f1, f2, f3⟩ := hF S9 m9
        exact ct_mbits f1 ht f2 f3 hvr hk hp8
    · skip
      refine xt_Sp_no (b := nI 0) hI 2 ⟨by decide, by decide⟩ (wr_bits (ct_bits_bad2 (Q := fun _ _ => False) hst hP ht hl) (fun _ _ h9 => h9.elim) (fun X S9 h9 => by obtain ⟨rfl, rfl⟩ := h9; exact Or.inr ⟨rfl, rfl, xt_fr_rf⟩)) (fun S9 c9 m9 => ?_)
      obtain ⟨f1, f2, f3⟩ := hF S9 m9
      exact ct_mbits_q f1 ht hl
  · skip
    refine xt_Sp_no (b := nI 0) hI 1 ⟨by decide, by decide⟩ (wr_bits (ct_bits_bad1 (Q := fun _ _ => False) hst hP ht) (fun _ _ h9 => h9.elim) (fun X S9 h9 => by obtain ⟨rfl, rfl⟩ := h9; exact Or.inl ⟨rfl, rfl, xt_fr_rf⟩)) (fun S9 c9 m9 => ?_)
    obtain ⟨f1, f2, f3⟩ := hF S9 m9
    exact ct_mbits_t f1 ht
theorem st_roots (hst : l.stackTraces = false) (hI : xt_Inv S) (a : Int32) (b : Int32) : xt_Sp (xt_W_roots E l S a b) (xt_M_roots E l a b) := by
  obtain ⟨A, c, r, sd, lv, bo, hA, hc, hm, hg, hP, hvr, hk, hF⟩ := xt_ctx hI
  have hnt := (xt_Pic_nt hP).2
  by_cases ht : ∃ j, j < xt_nt c r sd ∧ a = nI j
  · by_cases hl : nI 0 ≤ b ∧ b ≤ nI 9
    · obtain ⟨t, ht, rfl⟩ := ht
      obtain ⟨n, hn9, rfl⟩ := xt_rng (by decide) hl
      refine xt_Sp_ro hI _ (wr_roots (ct_roots_ok (QX := fun _ _ => False) hP ht hk hn9) (fun v S9 h9 => ⟨_, h9.1, rfl, _, h9.2, rfl⟩) (fun _ _ h9 => h9.elim)) (fun S9 c9 m9 => ?_)
      obtain ⟨f1, f2, f3⟩ := hF S9 m9
      exact ct_mroots f1 ht f2 f3 hvr hk hn9
    · skip
      refine xt_Sp_no (b := nI 0) hI 2 ⟨by decide, by decide⟩ (wr_roots (ct_roots_bad2 (Q := fun _ _ => False) hst hP ht hl) (fun _ _ h9 => h9.elim) (fun X S9 h9 => by obtain ⟨rfl, rfl⟩ := h9; exact Or.inr ⟨rfl, rfl, xt_fr_rf⟩)) (fun S9 c9 m9 => ?_)
      obtain ⟨f1, f2, f3⟩ := hF S9 m9
      exact ct_mroots_q f1 ht hl
  · skip
    refine xt_Sp_no (b := nI 0) hI 1 ⟨by decide, by decide⟩ (wr_roots (ct_roots_bad1 (Q := fun _ _ => False) hst hP ht) (fun _ _ h9 => h9.elim) (fun X S9 h9 => by obtain ⟨rfl, rfl⟩ := h9; exact Or.inl ⟨rfl, rfl, xt_fr_rf⟩)) (fun S9 c9 m9 => ?_)
    obtain ⟨f1, f2, f3⟩ := hF S9 m9
    exact ct_mroots_t f1 ht
theorem st_decoded (hst : l.stackTraces = false) (hI : xt_Inv S) (a : Int32) (b : Int32) (d : Int32) : xt_Sp (xt_W_decoded E l S a b d) (xt_M_decoded E l a b d) := by
  obtain ⟨A, c, r, sd, lv, bo, hA, hc, hm, hg, hP, hvr, hk, hF⟩ := xt_ctx hI
  have hnt := (xt_Pic_nt hP).2
  by_cases hl : nI 0 ≤ a ∧ a ≤ nI 9
  · by_cases hb : xt_pix c r b d
    · obtain ⟨⟨x, hx, rfl⟩, y, hy, rfl⟩ := hb
      obtain ⟨n, hn9, rfl⟩ := xt_rng (by decide) hl
      refine xt_Sp_ro hI _ (wr_decoded (ct_decoded_ok (QX := fun _ _ => False) hP hk hx hy rfl hn9) (fun v S9 h9 => ⟨_, h9.1, rfl, _, h9.2, rfl⟩) (fun _ _ h9 => h9.elim)) (fun S9 c9 m9 => ?_)
      obtain ⟨f1, f2, f3⟩ := hF S9 m9
      exact ct_mdecoded f1 f2 f3 hvr hk hx hy rfl hn9
    · skip
      refine xt_Sp_no (b := nI 0) hI 2 ⟨by decide, by decide⟩ (wr_decoded (ct_decoded_bad2 (Q := fun _ _ => False) hst hP hl hb) (fun _ _ h9 => h9.elim) (fun X S9 h9 => by obtain ⟨rfl, rfl⟩ := h9; exact Or.inr ⟨rfl, rfl, xt_fr_rf⟩)) (fun S9 c9 m9 => ?_)
      obtain ⟨f1, f2, f3⟩ := hF S9 m9
      exact ct_mdecoded_p f1 hl hb
  · skip
    refine xt_Sp_no (b := nI 0) hI 1 ⟨by decide, by decide⟩ (wr_decoded (ct_decoded_bad1 (Q := fun _ _ => False) hst hl) (fun _ _ h9 => h9.elim) (fun X S9 h9 => by obtain ⟨rfl, rfl⟩ := h9; exact Or.inl ⟨rfl, rfl, xt_fr_rf⟩)) (fun S9 c9 m9 => ?_)
    obtain ⟨f1, f2, f3⟩ := hF S9 m9
    exact ct_mdecoded_q hl
theorem st_worst (hst : l.stackTraces = false) (hI : xt_Inv S) (a : Int32) (b : Int32) (d : Int32) (hd : d = nI 0 ∨ d = nI 1) : xt_Sp (xt_W_worst E l S a b d) (xt_M_worst E l a b d) := by
  obtain ⟨A, c, r, sd, lv, bo, hA, hc, hm, hg, hP, hvr, hk, hF⟩ := xt_ctx hI
  have hnt := (xt_Pic_nt hP).2
  by_cases hl : nI 0 ≤ a ∧ a ≤ nI 9
  · by_cases ht : ∃ j, j < xt_nt c r sd ∧ b = nI j
    · obtain ⟨t, ht, rfl⟩ := ht
      obtain ⟨n, hn9, rfl⟩ := xt_rng (by decide) hl
      rcases hd with rfl | rfl
      · skip
        refine xt_Sp_ro hI _ (wr_worst (ct_worst_diff (QX := fun _ _ => False) hP ht hk hn9) (fun v S9 h9 => ⟨_, h9.1, rfl, _, h9.2, rfl⟩) (fun _ _ h9 => h9.elim)) (fun S9 c9 m9 => ?_)
        obtain ⟨f1, f2, f3⟩ := hF S9 m9
        exact ct_mworst_diff f1 ht f2 f3 hvr hk hn9
      · skip
        refine xt_Sp_ro hI _ (wr_worst (ct_worst_bound (QX := fun _ _ => False) hP ht hk hn9) (fun v S9 h9 => ⟨_, h9.1, rfl, _, h9.2, rfl⟩) (fun _ _ h9 => h9.elim)) (fun S9 c9 m9 => ?_)
        obtain ⟨f1, f2, f3⟩ := hF S9 m9
        exact ct_mworst_bound f1 ht f2 f3 hvr hk hn9
    · skip
      refine xt_Sp_no (b := nI 0) hI 2 ⟨by decide, by decide⟩ (wr_worst (ct_worst_bad2 (Q := fun _ _ => False) hst hP hl ht) (fun _ _ h9 => h9.elim) (fun X S9 h9 => by obtain ⟨rfl, rfl⟩ := h9; exact Or.inr ⟨rfl, rfl, xt_fr_rf⟩)) (fun S9 c9 m9 => ?_)
      obtain ⟨f1, f2, f3⟩ := hF S9 m9
      exact ct_mworst_t f1 hl ht
  · skip
    refine xt_Sp_no (b := nI 0) hI 1 ⟨by decide, by decide⟩ (wr_worst (ct_worst_bad1 (Q := fun _ _ => False) hst hl) (fun _ _ h9 => h9.elim) (fun X S9 h9 => by obtain ⟨rfl, rfl⟩ := h9; exact Or.inl ⟨rfl, rfl, xt_fr_rf⟩)) (fun S9 c9 m9 => ?_)
    obtain ⟨f1, f2, f3⟩ := hF S9 m9
    exact ct_mworst_q hl
theorem st_planned (hst : l.stackTraces = false) (hI : xt_Inv S) (a : Int32) : xt_Sp (xt_W_planned E l S a) (xt_M_planned E l a) := by
  obtain ⟨A, c, r, sd, lv, bo, hA, hc, hm, hg, hP, hvr, hk, hF⟩ := xt_ctx hI
  have hnt := (xt_Pic_nt hP).2
  have hp5 := hc.2.2.2.2.2.2
  have hp6 := hm.2.2.2.2.2.2
  cases hpl : A.plan with
  | none =>
    rw [hpl] at hp5 hp6
    refine xt_Sp_no (b := nI 0) hI 1 ⟨by decide, by decide⟩ (wr_planned (ct_planned_bad1 (Q := fun _ _ => False) hst hp5) (fun _ _ h9 => h9.elim) (fun X S9 h9 => by obtain ⟨rfl, rfl⟩ := h9; exact Or.inl ⟨rfl, rfl, xt_fr_rf⟩)) (fun S9 c9 m9 => ?_)
    obtain ⟨f1, f2, f3⟩ := hF S9 m9
    exact ct_mplanned_n ((m9.1 13 (by decide) (by decide) (by decide) (by decide)).trans hp6)
  | some q =>
    obtain ⟨n, f⟩ := q
    rw [hpl] at hp5 hp6
    obtain ⟨a1, a2, a3, a4⟩ := hp5
    obtain ⟨b1, b2, b3, b4⟩ := hp6
    by_cases hl : nI 0 ≤ a ∧ a ≤ nI (n - 1)
    · obtain ⟨t, ht, rfl⟩ := xt_rng (by omega) hl
      refine xt_Sp_ro hI _ (wr_planned (ct_planned_ok (QX := fun _ _ => False) a1 (t := t) (by omega) a3 (a4 t (by omega))) (fun v S9 h9 => ⟨_, h9.1, rfl, _, xt_fr_eq h9.2, rfl⟩) (fun _ _ h9 => h9.elim)) (fun S9 c9 m9 => ?_)
      obtain ⟨f1, f2, f3⟩ := hF S9 m9
      exact ct_mplanned ((m9.1 13 (by decide) (by decide) (by decide) (by decide)).trans b1) (by omega) b3 (by rw [m9.2 55 (by decide)]; exact b4 t (by omega))
    · skip
      refine xt_Sp_no (b := nI 0) hI 2 ⟨by decide, by decide⟩ (wr_planned (ct_planned_bad2 (Q := fun _ _ => False) hst a1 a2 a3 hl) (fun _ _ h9 => h9.elim) (fun X S9 h9 => by obtain ⟨rfl, rfl⟩ := h9; exact Or.inr ⟨rfl, rfl, xt_fr_rf⟩)) (fun S9 c9 m9 => ?_)
      obtain ⟨f1, f2, f3⟩ := hF S9 m9
      exact ct_mplanned_t ((m9.1 13 (by decide) (by decide) (by decide) (by decide)).trans b1) b2 b3 hl
theorem st_faultPosition (hst : l.stackTraces = false) (hI : xt_Inv S) : xt_Sp (xt_W_faultPosition E l S) (xt_M_faultPosition E l) := by
  obtain ⟨A, c, r, sd, lv, bo, hA, hc, hm, hg, hP, hvr, hk, hF⟩ := xt_ctx hI
  have hnt := (xt_Pic_nt hP).2
  have hp5 := hc.2.2.2.2.1
  have hp6 := hm.2.2.2.2.1
  cases hpl : A.fault with
  | none =>
    rw [hpl] at hp5 hp6
    refine xt_Sp_no (b := nI 0) hI 1 ⟨by decide, by decide⟩ (wr_faultPosition (ct_fault_bad (Q := fun _ _ => False) hst hp5) (fun _ _ h9 => h9.elim) (fun X S9 h9 => by obtain ⟨rfl, rfl⟩ := h9; exact ⟨rfl, rfl, xt_fr_rf⟩)) (fun S9 c9 m9 => ?_)
    obtain ⟨f1, f2, f3⟩ := hF S9 m9
    exact ct_mfault_n ((m9.1 10 (by decide) (by decide) (by decide) (by decide)).trans hp6)
  | some n =>
    rw [hpl] at hp5 hp6
    refine xt_Sp_ro hI _ (wr_faultPosition (ct_fault_ok (QX := fun _ _ => False) hp5.1 hp5.2) (fun v S9 h9 => ⟨_, h9.1, rfl, _, xt_fr_eq h9.2, rfl⟩) (fun _ _ h9 => h9.elim)) (fun S9 c9 m9 => ?_)
    obtain ⟨f1, f2, f3⟩ := hF S9 m9
    exact ct_mfault ((m9.1 10 (by decide) (by decide) (by decide) (by decide)).trans hp6.1) hp6.2
theorem st_refusal (hst : l.stackTraces = false) (hI : xt_Inv S) (a : Int32) (hd : a = nI 0 ∨ a = nI 1) : xt_Sp (xt_W_refusal E l S a) (xt_M_refusal E l a) := by
  obtain ⟨A, c, r, sd, lv, bo, hA, hc, hm, hg, hP, hvr, hk, hF⟩ := xt_ctx hI
  have hnt := (xt_Pic_nt hP).2
  have hp5 := hc.2.2.2.2.2.1
  have hp6 := hm.2.2.2.2.2.1
  cases hpl : A.ref with
  | none =>
    rw [hpl] at hp5 hp6
    refine xt_Sp_no (b := nI 0) hI 1 ⟨by decide, by decide⟩ (wr_refusal (ct_refusal_bad (Q := fun _ _ => False) hst hp5) (fun _ _ h9 => h9.elim) (fun X S9 h9 => by obtain ⟨rfl, rfl⟩ := h9; exact ⟨rfl, rfl, xt_fr_rf⟩)) (fun S9 c9 m9 => ?_)
    obtain ⟨f1, f2, f3⟩ := hF S9 m9
    exact ct_mrefusal_n ((m9.1 11 (by decide) (by decide) (by decide) (by decide)).trans hp6)
  | some q =>
    obtain ⟨n, z⟩ := q
    rw [hpl] at hp5 hp6
    obtain ⟨a1, a2, a3, a4⟩ := hp5
    obtain ⟨b1, b2, b3, b4⟩ := hp6
    rcases hd with rfl | rfl
    · refine xt_Sp_ro hI _ (wr_refusal (ct_refusal0_ok (QX := fun _ _ => False) a1 a3) (fun v S9 h9 => ⟨_, h9.1, rfl, _, xt_fr_eq h9.2, rfl⟩) (fun _ _ h9 => h9.elim)) (fun S9 c9 m9 => ?_)
      rw [a4, ← b4, ← m9.1 12 (by decide) (by decide) (by decide) (by decide)]
      exact ct_mrefusal0 ((m9.1 11 (by decide) (by decide) (by decide) (by decide)).trans b1) b2 b3
    · refine xt_Sp_ro hI _ (wr_refusal (ct_refusal1_ok (QX := fun _ _ => False) a1 a3) (fun v S9 h9 => ⟨_, h9.1, rfl, _, xt_fr_eq h9.2, rfl⟩) (fun _ _ h9 => h9.elim)) (fun S9 c9 m9 => ?_)
      rw [a1, ← b1, ← m9.1 11 (by decide) (by decide) (by decide) (by decide)]
      exact ct_mrefusal1 ((m9.1 11 (by decide) (by decide) (by decide) (by decide)).trans b1) b2 b3
theorem st_meanSquare (hst : l.stackTraces = false) (hI : xt_Inv S) (a : Int32) : xt_SpD (xt_W_meanSquare E l S a) (xt_M_meanSquare E l a) := by
  obtain ⟨A, c, r, sd, lv, bo, hA, hc, hm, hg, hP, hvr, hk, hF⟩ := xt_ctx hI
  have hnt := (xt_Pic_nt hP).2
  by_cases hl : nI 0 ≤ a ∧ a ≤ nI 9
  · obtain ⟨n, hn9, rfl⟩ := xt_rng (by decide) hl
    refine ⟨0, fun S' => ∃ T, xt_fr S T ∧ S' = xt_sD T 68 (vf_upd (T.2.2.2 68) 0 (FP.ddiv (FP.i2d (xt_sq c r sd lv bo n (S.2.1 2) (S.2.1 3) (xt_nt c r sd))) (FP.i2d (nI (c * r))))), by decide, wr_meanSquare (ct_meanSquare_ok (QX := fun _ _ => False) hP hk hn9) (fun v S9 h9 => ⟨_, h9.1, rfl, _, h9.2, rfl⟩) (fun _ _ h9 => h9.elim), fun S' h => ?_⟩
    obtain ⟨T, hT, rfl⟩ := h
    have c1 : xt_cf S (xt_sD T 68 (vf_upd (T.2.2.2 68) 0 (FP.ddiv (FP.i2d (xt_sq c r sd lv bo n (S.2.1 2) (S.2.1 3) (xt_nt c r sd))) (FP.i2d (nI (c * r)))))) := xt_cf_tr (xt_fr_cf hT) ⟨fun _ _ _ _ => rfl, fun _ _ _ => rfl⟩
    have m1 : xt_mf S (xt_sD T 68 (vf_upd (T.2.2.2 68) 0 (FP.ddiv (FP.i2d (xt_sq c r sd lv bo n (S.2.1 2) (S.2.1 3) (xt_nt c r sd))) (FP.i2d (nI (c * r)))))) := xt_mf_tr (xt_fr_mf hT) ⟨fun _ _ _ _ _ => rfl, fun _ _ => rfl⟩
    obtain ⟨f1, f2, f3⟩ := hF _ m1
    refine ⟨_, _, ct_mmeanSquare f1 f2 f3 hvr hk hn9, fun S2 h2 => ⟨h2.2, fun _ => ⟨?_, ?_⟩, A, hA, xt_CR_of (xt_cf_tr c1 (xt_mr_cf h2)) hc, xt_MR_of (xt_mf_tr m1 (xt_mr_mf h2)) hm⟩⟩
    · rw [h2.1.2.2.2]; simp [xt_sD, vf_upd]
    · obtain ⟨-, -, -, -, -, g1, g2, g3, g4, -⟩ := hP
      exact xt_fself (by have := Nat.mul_le_mul g1 g3; omega) (by have := Nat.mul_le_mul g2 g4; omega)
  · refine ⟨1, fun S' => xt_fr S S', by decide, wr_meanSquare (ct_meanSquare_bad (Q := fun _ _ => False) hst hl) (fun _ _ h9 => h9.elim) (fun X S9 h9 => by obtain ⟨rfl, rfl⟩ := h9; exact ⟨rfl, rfl, xt_fr_rf⟩), fun S' h => ?_⟩
    refine ⟨_, _, ct_mmeanSquare_b hl, fun S2 h2 => ⟨h2.2, fun h9 => absurd h9 (by decide), A, hA, xt_CR_of (xt_cf_tr (xt_fr_cf h) (xt_mr_cf h2)) hc, xt_MR_of (xt_mf_tr (xt_fr_mf h) (xt_mr_mf h2)) hm⟩⟩
end XL3
