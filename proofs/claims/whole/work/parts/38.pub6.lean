/-! THE TILER: raise, swap, soften, descendants, roots, needed, decoded, worst -/
section XC30
variable {E : xt_Ev} {l : Launch} {S : xt_St}
/-- the parent of a place, if there is one -/
def xt_pf (dp w h p : Nat) : Option Nat := if xt_pp dp w h (p % 8) (p / 8) < 0 then none else some (xt_pp dp w h (p % 8) (p / 8)).toNatClampNeg
theorem xt_bx_le {w lv x : Nat} : xt_bx w lv x ≤ x := by unfold xt_bx; split <;> omega
theorem xt_pp_sp {dp w h x y : Nat} (hd : dp ≤ 3) (hw : w ≤ 8) (hh : h ≤ 8) (hx : x < w) (hy : y < h) : xt_pp dp w h x y = -1 ∨ ∃ a b, a < w ∧ b < h ∧ xt_pp dp w h x y = nI (8 * b + a) := by
  have hl := xt_lev_le (dp := dp) (w := w) (h := h) (x := x) (y := y) hd
  unfold xt_pp xt_par
  have b1 := xt_bx_le (w := w) (lv := xt_lev dp w h x y) (x := x)
  have b2 := xt_bx_le (w := h) (lv := xt_lev dp w h x y) (x := y)
  have l1 := xt_lo_le (n := w) (k := xt_lev dp w h x y) (by omega)
  have l2 := xt_lo_le (n := h) (k := xt_lev dp w h x y) (by omega)
  by_cases z1 : xt_lev dp w h x y = 0
  · rw [if_pos z1]; exact Or.inl rfl
  rw [if_neg z1]
  by_cases z2 : xt_lev dp w h x y = dp
  · rw [if_pos z2]; exact Or.inr ⟨_, _, by omega, by omega, rfl⟩
  rw [if_neg z2]
  generalize (xt_bx w (xt_lev dp w h x y) x / 2 + if xt_kd dp w h x y % 2 = 1 then xt_lo w (xt_lev dp w h x y + 1) else 0) = A
  generalize (xt_bx h (xt_lev dp w h x y) y / 2 + if 2 ≤ xt_kd dp w h x y then xt_lo h (xt_lev dp w h x y + 1) else 0) = B
  split
  · rename_i z3; exact Or.inr ⟨_, _, Nat.lt_of_lt_of_le z3.1 l1, Nat.lt_of_lt_of_le z3.2 l2, rfl⟩
  · exact Or.inl rfl
theorem xt_pf_I {dp w h : Nat} (hd : dp ≤ 3) (hw : w ≤ 8) (hh : h ≤ 8) {p : Nat} (hp : xt_in w h p) : xt_pp dp w h (p % 8) (p / 8) = xt_oI (xt_pf dp w h p) := by
  unfold xt_pf
  rcases xt_pp_sp (dp := dp) hd hw hh hp.1 hp.2 with e | ⟨a, b, ha, hb, e⟩
  · rw [e]; rfl
  · rw [e, if_neg (nI_pos (by omega)), nI_clamp (by omega)]; rfl
theorem xt_pf_T {dp w h : Nat} (hd : dp ≤ 3) (hw : w ≤ 8) (hh : h ≤ 8) : xt_tree w h (xt_pf dp w h) := by
  intro p q hp hq
  unfold xt_pf at hq
  rcases xt_pp_sp (dp := dp) hd hw hh hp.1 hp.2 with e | ⟨a, b, ha, hb, e⟩
  · rw [e, if_pos (by decide)] at hq; cases hq
  · rw [e, if_neg (nI_pos (by omega)), nI_clamp (by omega)] at hq
    cases hq
    exact ⟨by omega, by omega⟩
theorem xt_TL_p {c r sd pl pb t : Nat} {v k : Nat → Int32} (h : xt_TL S c r sd pl pb t v k) : ∀ p, xt_in (xt_gw c sd t) (xt_gh c r sd t) p → S.2.1 37 p = xt_oI (xt_pf (xt_tD c r sd pl t) (xt_gw c sd t) (xt_gh c r sd t) p) := by
  intro p hp
  have h9 := (h.2 (p / 8) (p % 8) hp.2 hp.1).2.2.2.1
  rw [show 8 * (p / 8) + p % 8 = p by omega] at h9
  rw [h9]
  obtain ⟨-, -, -, -, -, -, g1, g2, g3, -⟩ := xt_TL_n h
  exact xt_pf_I g3 g1 g2 hp
theorem xt_TL_T {c r sd pl pb t : Nat} {v k : Nat → Int32} (h : xt_TL S c r sd pl pb t v k) : xt_tree (xt_gw c sd t) (xt_gh c r sd t) (xt_pf (xt_tD c r sd pl t) (xt_gw c sd t) (xt_gh c r sd t)) := by
  obtain ⟨-, -, -, -, -, -, g1, g2, g3, -⟩ := xt_TL_n h
  exact xt_pf_T g3 g1 g2
theorem xt_loud_e {f : Nat → Option Nat} {co co' : Nat → Int32} {x : Int32} {D : Nat → Nat → Prop} {p : Nat} (h : ∀ y x9, D y x9 → co (8 * y + x9) = co' (8 * y + x9)) : xt_loud f co x D p ↔ xt_loud f co' x D p := by
  unfold xt_loud
  constructor
  · rintro ⟨y, x9, z, r⟩; exact ⟨y, x9, z, by rw [← h y x9 z]; exact r⟩
  · rintro ⟨y, x9, z, r⟩; exact ⟨y, x9, z, by rw [h y x9 z]; exact r⟩
theorem xt_root_e {f : Nat → Option Nat} {L L' : Nat → Prop} {p : Nat} (h : ∀ p, L p ↔ L' p) : xt_root f L p ↔ xt_root f L' p := by
  unfold xt_root
  constructor
  · rintro ⟨a, b⟩
    exact ⟨fun z => a ((h p).mpr z), b.imp id (fun ⟨q, e, z⟩ => ⟨q, e, (h q).mp z⟩)⟩
  · rintro ⟨a, b⟩
    exact ⟨fun z => a ((h p).mp z), b.imp id (fun ⟨q, e, z⟩ => ⟨q, e, (h q).mpr z⟩)⟩
/-- roots of a tile -/
noncomputable def xt_tR (c r sd pl t n : Nat) (v : Nat → Int32) : Int32 := xt_N2 (fun x y => xt_root (xt_pf (xt_tD c r sd pl t) (xt_gw c sd t) (xt_gh c r sd t)) (xt_loud (xt_pf (xt_tD c r sd pl t) (xt_gw c sd t) (xt_gh c r sd t)) (xt_tC c r sd pl t v) (nI (1 * 2 ^ n)) (fun y9 x9 => y9 < xt_gh c r sd t ∧ x9 < xt_gw c sd t)) (8 * y + x)) (xt_gw c sd t) (xt_gh c r sd t)
theorem xt_TL_R {c r sd pl pb t n : Nat} {v k : Nat → Int32} (h : xt_TL S c r sd pl pb t v k) : xt_N2 (fun x y => xt_root (xt_pf (xt_tD c r sd pl t) (xt_gw c sd t) (xt_gh c r sd t)) (xt_loud (xt_pf (xt_tD c r sd pl t) (xt_gw c sd t) (xt_gh c r sd t)) (S.2.1 35) (nI (1 * 2 ^ n)) (fun y9 x9 => y9 < xt_gh c r sd t ∧ x9 < xt_gw c sd t)) (8 * y + x)) (xt_gw c sd t) (xt_gh c r sd t) = xt_tR c r sd pl t n v := by
  obtain ⟨-, -, -, -, -, -, g1, g2, -⟩ := xt_TL_n h
  unfold xt_tR
  exact xt_N2_c (fun y x hy hx => xt_root_e (fun p => xt_loud_e (fun y9 x9 z => (xt_TL_c h (8 * y9 + x9) ⟨by omega, by omega⟩).1)))
noncomputable def xt_tU (c r sd pl pb t n : Nat) (k : Nat → Int32) : Int32 := if xt_mx2 (fun x y => (xt_jn 1 (xt_gw c sd t) (xt_gh c r sd t) (xt_tD c r sd pl t) (fun p => nI (1 * 2 ^ xt_mis (xt_tM c r sd pl t k p) pb n - 1)) (8 * y + x))) (xt_gw c sd t) (xt_gh c r sd t) < nI 255 then xt_mx2 (fun x y => (xt_jn 1 (xt_gw c sd t) (xt_gh c r sd t) (xt_tD c r sd pl t) (fun p => nI (1 * 2 ^ xt_mis (xt_tM c r sd pl t k p) pb n - 1)) (8 * y + x))) (xt_gw c sd t) (xt_gh c r sd t) else nI 255
/-- the tile of a pixel -/
theorem xt_tof {c r sd x y t : Nat} (hc : 2 ≤ c ∧ c ≤ 16) (hr : 2 ≤ r ∧ r ≤ 16) (hs : sd = 2 ∨ sd = 4 ∨ sd = 8) (hx : x < c) (hy : y < r) (ht : t = y / sd * xt_ac c sd + x / sd) :
    t < xt_nt c r sd ∧ xt_gl c sd t ≤ x ∧ x - xt_gl c sd t < xt_gw c sd t ∧ xt_gt c sd t ≤ y ∧ y - xt_gt c sd t < xt_gh c r sd t := by
  obtain ⟨a1, a2, a3, a4⟩ := xt_ac_b hc hs
  obtain ⟨b1, b2, b3, b4⟩ := xt_ac_b hr hs
  have hxa : x / sd < xt_ac c sd := Nat.div_lt_of_lt_mul (by rw [Nat.mul_comm]; omega)
  have hya : y / sd < xt_ac r sd := Nat.div_lt_of_lt_mul (by rw [Nat.mul_comm]; omega)
  have e1 : t % xt_ac c sd = x / sd := by rw [ht, Nat.add_comm, Nat.add_mul_mod_self_right, Nat.mod_eq_of_lt hxa]
  have e2 : t / xt_ac c sd = y / sd := by rw [ht, Nat.add_comm, Nat.add_mul_div_right _ _ a1, Nat.div_eq_of_lt hxa, Nat.zero_add]
  have h1 : t < xt_nt c r sd := by
    unfold xt_nt
    have h9 : (y / sd + 1) * xt_ac c sd ≤ xt_ac r sd * xt_ac c sd := Nat.mul_le_mul_right _ hya
    rw [Nat.add_mul, Nat.mul_comm (xt_ac r sd)] at h9
    omega
  refine ⟨h1, ?_⟩
  unfold xt_gw xt_gh xt_gl xt_gt
  rw [e1, e2]
  rcases hs with rfl | rfl | rfl <;> omega
set_option maxRecDepth 20000 in
set_option maxHeartbeats 2000000 in
theorem ct_raise_ok {QX : String → xt_St → Prop} {c r sd lv bo : Nat} (hP : xt_Pic S 1 c r sd lv bo) {t : Nat} (ht : t < xt_nt c r sd) {by9 : Int32} (hby : -255 ≤ by9 ∧ by9 ≤ nI 255) {nx kp : Nat} (hh : xt_Hi S nx kp) (hov : ∀ y9 x9, y9 < xt_gh c r sd t → x9 < xt_gw c sd t → xt_okv (S.2.1 2 ((xt_gt c sd t + y9) * c + (xt_gl c sd t + x9)) + by9)) : xt_CtX E l yX5_raise cX5_raise 4 (some Jvm.ClassFile.FieldType.int) 7 113 1 6 [.ref (E.1 0), .int (nI t), .int by9] S (xt_Eq (some (.int (xt_sum2 ((xt_sA (xt_keep S nx kp) 2 (xt_add2 c (xt_gl c sd t) (xt_gt c sd t) (xt_gw c sd t) (xt_gh c r sd t) by9 ((xt_keep S nx kp).2.1 2))).2.1 2) c (xt_gl c sd t) (xt_gt c sd t) (xt_gw c sd t) (xt_gh c r sd t)))) (xt_sA (xt_keep S nx kp) 2 (xt_add2 c (xt_gl c sd t) (xt_gt c sd t) (xt_gw c sd t) (xt_gh c r sd t) by9 ((xt_keep S nx kp).2.1 2)))) QX := by
  refine xt_bodyX (by decide +kernel) (xt_all rfl) (Nat.le_of_ble_eq_true rfl) (fun cx C hl9 hx9 => ?_)
  show xt_X E cx _ 0 0 0 [some (.ref (E.1 0)), some (.int (nI t)), some (.int by9), none] [] S
  have hP9 := hP
  obtain ⟨hc, hr, hs, hv, hb, b1, b2, b3, b4, b5, b6, b7⟩ := hP
  have hn := xt_nt_b ⟨b1, b2⟩ ⟨b3, b4⟩ b5
  have hT := xt_tile_b ⟨b1, b2⟩ ⟨b3, b4⟩ b5 ht
  refine xt_aload_n C dX5_raise_0 rfl ?_
  refine xt_get (f := 0) C xt_u5 rfl (by decide) (xt_cl0 _ _) (by decide) lkX5_10 rfl dX5_raise_1 ?_
  refine xt_iload_n C dX5_raise_4 rfl ?_
  refine xt_cVN C mv_X1_hasTile lkX5_164 (ct_hasTile hP9) rfl (by decide) (xt_cl1 _ _) rfl (by decide) rfl (Nat.le_of_ble_eq_true rfl) dX5_raise_5 ?_
  refine xt_if_neB (tgt := 21) C dX5_raise_8 (by decide) (fun c8 => ?_) (fun c8 => ?_)
  · refine xt_iload_n C dX5_raise_21 rfl ?_
    refine xt_sipush (v := -255) C dX5_raise_22 (by decide) ?_
    refine xt_sipush (v := nI 255) C dX5_raise_25 (by decide) ?_
    refine xt_cS C ms_X5_isBetween lkX5_61 ct_between rfl (by decide) rfl (Nat.le_of_ble_eq_true rfl) dX5_raise_28 ?_
    refine xt_if_neB (tgt := 44) C dX5_raise_31 (by decide) (fun c31 => ?_) (fun c31 => ?_)
    · refine xt_aload_n C dX5_raise_44 rfl ?_
      refine xt_get (f := 0) C xt_u5 rfl (by decide) (xt_cl0 _ _) (by decide) lkX5_10 rfl dX5_raise_45 ?_
      refine xt_iload_n C dX5_raise_48 rfl ?_
      refine xt_iload_n C dX5_raise_49 rfl ?_
      refine xt_cVNq C mv_X1_firstHurt lkX5_203 (ct_firstHurt hP9 ht) rfl (by decide) (xt_cl1 _ _) rfl (by decide) rfl (Nat.le_of_ble_eq_true rfl) dX5_raise_50 (fun v9 S9 hq9 => ?_)
      obtain ⟨rfl, hq⟩ := hq9
      rcases hq with ⟨y, x, hy, hx, -, hno, -⟩ | ⟨rfl, -⟩
      · exact absurd (hov y x hy hx) hno
      refine xt_istore_n (lo' := [_, _, _, _]) C dX5_raise_53 (Nat.le_of_ble_eq_true rfl) rfl rfl ?_
      refine xt_iload_n C dX5_raise_54 rfl ?_
      refine xt_if_lt (tgt := 82) C dX5_raise_55 (by decide) (fun c55 => ?_) (fun c55 => ?_)
      · refine xt_aload_n C dX5_raise_82 rfl ?_
        refine xt_get (f := 3) C xt_u5 rfl (by decide) (xt_cl0 _ _) (by decide) lkX5_26 rfl dX5_raise_83 ?_
        refine xt_aload_n C dX5_raise_86 rfl ?_
        refine xt_get (f := 0) C xt_u5 rfl (by decide) (xt_cl0 _ _) (by decide) lkX5_10 rfl dX5_raise_87 ?_
        refine xt_cVNn C mv_X0_keep lkX5_72 (ct_keep hh.1 hh.2.1 hh.2.2.1 hh.2.2.2) rfl (by decide) (xt_cl7 _ _) rfl (by decide) rfl (Nat.le_of_ble_eq_true rfl) dX5_raise_90 ?_
        refine xt_aload_n C dX5_raise_93 rfl ?_
        refine xt_get (f := 0) C xt_u5 rfl (by decide) (xt_cl0 _ _) (by decide) lkX5_10 rfl dX5_raise_94 ?_
        refine xt_iload_n C dX5_raise_97 rfl ?_
        refine xt_iload_n C dX5_raise_98 rfl ?_
        refine xt_cVNn C mv_X1_add lkX5_214 (ct_add (by exact xt_keep_P (nx := nx) (kp := kp) hP9) ht) rfl (by decide) (xt_cl1 _ _) rfl (by decide) rfl (Nat.le_of_ble_eq_true rfl) dX5_raise_99 ?_
        refine xt_aload_n C dX5_raise_102 rfl ?_
        refine xt_get (f := 0) C xt_u5 rfl (by decide) (xt_cl0 _ _) (by decide) lkX5_10 rfl dX5_raise_103 ?_
        refine xt_aload_n C dX5_raise_106 rfl ?_
        refine xt_get (f := 0) C xt_u5 rfl (by decide) (xt_cl0 _ _) (by decide) lkX5_10 rfl dX5_raise_107 ?_
        refine xt_getN (f := 5) C xt_u1 rfl (by decide) (xt_cl1 _ _) (by decide) lkX5_120 rfl dX5_raise_110 ?_
        refine xt_iload_n C dX5_raise_113 rfl ?_
        refine xt_cVN C mv_X1_totalIn lkX5_189 (ct_totalIn (by exact xt_keep_P (nx := nx) (kp := kp) hP9) (by decide) (xt_cl2 _) ht) rfl (by decide) (xt_cl1 _ _) rfl (by decide) rfl (Nat.le_of_ble_eq_true rfl) dX5_raise_114 ?_
        refine xt_ofM ?_
        exact xt_iret C dX5_raise_117 ⟨by decide, by decide⟩ ⟨rfl, rfl⟩
      · exact absurd c55 (by decide)
    · exact absurd hby c31
  · exact absurd ⟨t, ht, rfl⟩ c8
set_option maxRecDepth 20000 in
set_option maxHeartbeats 2000000 in
theorem ct_raise_bad3 {Q : Option Value → xt_St → Prop} (hst : l.stackTraces = false) {c r sd lv bo : Nat} (hP : xt_Pic S 1 c r sd lv bo) {t : Nat} (ht : t < xt_nt c r sd) {by9 : Int32} (hby : -255 ≤ by9 ∧ by9 ≤ nI 255) {y x : Nat} (hy : y < xt_gh c r sd t) (hx : x < xt_gw c sd t) (hno : ¬ xt_okv (S.2.1 2 ((xt_gt c sd t + y) * c + (xt_gl c sd t + x)) + by9)) (hfi : ∀ y9 x9, y9 < xt_gh c r sd t → x9 < xt_gw c sd t → (y9 < y ∨ (y9 = y ∧ x9 < x)) → xt_okv (S.2.1 2 ((xt_gt c sd t + y9) * c + (xt_gl c sd t + x9)) + by9)) : xt_CtX E l yX5_raise cX5_raise 4 (some Jvm.ClassFile.FieldType.int) 7 113 1 6 [.ref (E.1 0), .int (nI t), .int by9] S Q (xt_Ex "java/lang/UnsupportedOperationException" (xt_sN (xt_sN S 0 8 (if by9 < 0 then nI 4 else nI 5)) 0 9 (nI ((xt_gt c sd t + y) * c + (xt_gl c sd t + x))))) := by
  refine xt_bodyX (by decide +kernel) (xt_all rfl) (Nat.le_of_ble_eq_true rfl) (fun cx C hl9 hx9 => ?_)
  show xt_X E cx _ 0 0 0 [some (.ref (E.1 0)), some (.int (nI t)), some (.int by9), none] [] S
  have hP9 := hP
  obtain ⟨hc, hr, hs, hv, hb, b1, b2, b3, b4, b5, b6, b7⟩ := hP
  have hn := xt_nt_b ⟨b1, b2⟩ ⟨b3, b4⟩ b5
  have hT := xt_tile_b ⟨b1, b2⟩ ⟨b3, b4⟩ b5 ht
  refine xt_aload_n C dX5_raise_0 rfl ?_
  refine xt_get (f := 0) C xt_u5 rfl (by decide) (xt_cl0 _ _) (by decide) lkX5_10 rfl dX5_raise_1 ?_
  refine xt_iload_n C dX5_raise_4 rfl ?_
  refine xt_cVN C mv_X1_hasTile lkX5_164 (ct_hasTile hP9) rfl (by decide) (xt_cl1 _ _) rfl (by decide) rfl (Nat.le_of_ble_eq_true rfl) dX5_raise_5 ?_
  refine xt_if_neB (tgt := 21) C dX5_raise_8 (by decide) (fun c8 => ?_) (fun c8 => ?_)
  · refine xt_iload_n C dX5_raise_21 rfl ?_
    refine xt_sipush (v := -255) C dX5_raise_22 (by decide) ?_
    refine xt_sipush (v := nI 255) C dX5_raise_25 (by decide) ?_
    refine xt_cS C ms_X5_isBetween lkX5_61 ct_between rfl (by decide) rfl (Nat.le_of_ble_eq_true rfl) dX5_raise_28 ?_
    refine xt_if_neB (tgt := 44) C dX5_raise_31 (by decide) (fun c31 => ?_) (fun c31 => ?_)
    · refine xt_aload_n C dX5_raise_44 rfl ?_
      refine xt_get (f := 0) C xt_u5 rfl (by decide) (xt_cl0 _ _) (by decide) lkX5_10 rfl dX5_raise_45 ?_
      refine xt_iload_n C dX5_raise_48 rfl ?_
      refine xt_iload_n C dX5_raise_49 rfl ?_
      refine xt_cVNq C mv_X1_firstHurt lkX5_203 (ct_firstHurt hP9 ht) rfl (by decide) (xt_cl1 _ _) rfl (by decide) rfl (Nat.le_of_ble_eq_true rfl) dX5_raise_50 (fun v9 S9 hq9 => ?_)
      obtain ⟨rfl, hq⟩ := hq9
      rcases hq with ⟨y1, x1, hy1, hx1, rfl, hno1, hfi1⟩ | ⟨rfl, hall⟩
      rotate_left
      · exact absurd (hall y x hy hx) hno
      obtain ⟨rfl, rfl⟩ : y1 = y ∧ x1 = x := by
        have q1 : ¬ (y1 < y ∨ (y1 = y ∧ x1 < x)) := fun z => hno1 (hfi y1 x1 hy1 hx1 z)
        have q2 : ¬ (y < y1 ∨ (y = y1 ∧ x < x1)) := fun z => hno (hfi1 y x hy hx z)
        omega
      have hp9 := (xt_ix (c := c) (r := r) (x := xt_gl c sd t + x1) (y := xt_gt c sd t + y1) (by omega) (by omega) b2 b4).1
      refine xt_istore_n (lo' := [_, _, _, _]) C dX5_raise_53 (Nat.le_of_ble_eq_true rfl) rfl rfl ?_
      refine xt_iload_n C dX5_raise_54 rfl ?_
      refine xt_if_ltN (tgt := 82) C dX5_raise_55 (by decide) (by omega) ?_
      refine xt_aload_n C dX5_raise_58 rfl ?_
      refine xt_iload_n C dX5_raise_59 rfl ?_
      refine xt_if_ge (tgt := 67) C dX5_raise_60 (by decide) (fun c60 => ?_) (fun c60 => ?_)
      · rw [if_neg (Int32.not_lt.mpr c60)]
        refine xt_iconst (v := nI 5) C dX5_raise_67 rfl ?_
        refine xt_iload_n C dX5_raise_68 rfl ?_
        refine xt_cVn C mv_X5_refuse lkX5_206 ct_refuse rfl (by decide) (xt_cl0 _ _) rfl (by decide) rfl (Nat.le_of_ble_eq_true rfl) dX5_raise_69 ?_
        exact xt_throwS (i := 10) C (by rw [hl9]; exact hst) hx9 xw_209 rfl dX5_raise_72 dX5_raise_75 dX5_raise_76 dX5_raise_78 dX5_raise_81 rfl ⟨by decide, by decide, by decide, by decide⟩ (by decide) ⟨by decide, by decide⟩ ⟨rfl, rfl⟩
      · rw [if_pos (Int32.not_le.mp c60)]
        refine xt_iconst (v := nI 4) C dX5_raise_63 rfl ?_
        refine xt_goto (tgt := 68) C dX5_raise_64 (by decide) ?_
        refine xt_iload_n C dX5_raise_68 rfl ?_
        refine xt_cVn C mv_X5_refuse lkX5_206 ct_refuse rfl (by decide) (xt_cl0 _ _) rfl (by decide) rfl (Nat.le_of_ble_eq_true rfl) dX5_raise_69 ?_
        exact xt_throwS (i := 10) C (by rw [hl9]; exact hst) hx9 xw_209 rfl dX5_raise_72 dX5_raise_75 dX5_raise_76 dX5_raise_78 dX5_raise_81 rfl ⟨by decide, by decide, by decide, by decide⟩ (by decide) ⟨by decide, by decide⟩ ⟨rfl, rfl⟩
    · exact absurd hby c31
  · exact absurd ⟨t, ht, rfl⟩ c8
set_option maxRecDepth 20000 in
set_option maxHeartbeats 2000000 in
theorem ct_raise_bad1 {Q : Option Value → xt_St → Prop} (hst : l.stackTraces = false) {c r sd lv bo : Nat} (hP : xt_Pic S 1 c r sd lv bo) {a b9 : Int32} (hb : ¬ ∃ j, j < xt_nt c r sd ∧ a = nI j) : xt_CtX E l yX5_raise cX5_raise 4 (some Jvm.ClassFile.FieldType.int) 7 113 1 6 [.ref (E.1 0), .int a, .int b9] S Q (xt_Ex "java/lang/IndexOutOfBoundsException" S) := by
  refine xt_bodyX (by decide +kernel) (xt_all rfl) (Nat.le_of_ble_eq_true rfl) (fun cx C hl9 hx9 => ?_)
  show xt_X E cx _ 0 0 0 [some (.ref (E.1 0)), some (.int a), some (.int b9), none] [] S
  refine xt_aload_n C dX5_raise_0 rfl ?_
  refine xt_get (f := 0) C xt_u5 rfl (by decide) (xt_cl0 _ _) (by decide) lkX5_10 rfl dX5_raise_1 ?_
  refine xt_iload_n C dX5_raise_4 rfl ?_
  refine xt_cVN C mv_X1_hasTile lkX5_164 (ct_hasTile hP) rfl (by decide) (xt_cl1 _ _) rfl (by decide) rfl (Nat.le_of_ble_eq_true rfl) dX5_raise_5 ?_
  refine xt_if_neB (tgt := 21) C dX5_raise_8 (by decide) (fun c8 => ?_) (fun c8 => ?_)
  · exact absurd c8 hb
  · exact xt_throwS (i := 7) C (by rw [hl9]; exact hst) hx9 xw_134 rfl dX5_raise_11 dX5_raise_14 dX5_raise_15 dX5_raise_17 dX5_raise_20 rfl ⟨by decide, by decide, by decide, by decide⟩ (by decide) ⟨by decide, by decide⟩ ⟨rfl, rfl⟩
set_option maxRecDepth 20000 in
set_option maxHeartbeats 2000000 in
theorem ct_raise_bad2 {Q : Option Value → xt_St → Prop} (hst : l.stackTraces = false) {c r sd lv bo : Nat} (hP : xt_Pic S 1 c r sd lv bo) {a b9 : Int32} (hb : ∃ j, j < xt_nt c r sd ∧ a = nI j) (hby : ¬ (-255 ≤ b9 ∧ b9 ≤ nI 255)) : xt_CtX E l yX5_raise cX5_raise 4 (some Jvm.ClassFile.FieldType.int) 7 113 1 6 [.ref (E.1 0), .int a, .int b9] S Q (xt_Ex "java/lang/IllegalArgumentException" S) := by
  refine xt_bodyX (by decide +kernel) (xt_all rfl) (Nat.le_of_ble_eq_true rfl) (fun cx C hl9 hx9 => ?_)
  show xt_X E cx _ 0 0 0 [some (.ref (E.1 0)), some (.int a), some (.int b9), none] [] S
  refine xt_aload_n C dX5_raise_0 rfl ?_
  refine xt_get (f := 0) C xt_u5 rfl (by decide) (xt_cl0 _ _) (by decide) lkX5_10 rfl dX5_raise_1 ?_
  refine xt_iload_n C dX5_raise_4 rfl ?_
  refine xt_cVN C mv_X1_hasTile lkX5_164 (ct_hasTile hP) rfl (by decide) (xt_cl1 _ _) rfl (by decide) rfl (Nat.le_of_ble_eq_true rfl) dX5_raise_5 ?_
  refine xt_if_neB (tgt := 21) C dX5_raise_8 (by decide) (fun c8 => ?_) (fun c8 => ?_)
  · refine xt_iload_n C dX5_raise_21 rfl ?_
    refine xt_sipush (v := -255) C dX5_raise_22 (by decide) ?_
    refine xt_sipush (v := nI 255) C dX5_raise_25 (by decide) ?_
    refine xt_cS C ms_X5_isBetween lkX5_61 ct_between rfl (by decide) rfl (Nat.le_of_ble_eq_true rfl) dX5_raise_28 ?_
    refine xt_if_neB (tgt := 44) C dX5_raise_31 (by decide) (fun c31 => ?_) (fun c31 => ?_)
    · exact absurd c31 hby
    · exact xt_throwS (i := 9) C (by rw [hl9]; exact hst) hx9 xw_65 rfl dX5_raise_34 dX5_raise_37 dX5_raise_38 dX5_raise_40 dX5_raise_43 rfl ⟨by decide, by decide, by decide, by decide⟩ (by decide) ⟨by decide, by decide⟩ ⟨rfl, rfl⟩
  · exact absurd hb c8
set_option maxRecDepth 20000 in
set_option maxHeartbeats 2000000 in
theorem ct_swap_ok {QX : String → xt_St → Prop} {c r sd lv bo : Nat} (hP : xt_Pic S 1 c r sd lv bo) {t : Nat} (ht : t < xt_nt c r sd) {u : Nat} (hu : u < xt_nt c r sd) (ew : xt_gw c sd u = xt_gw c sd t) (eh : xt_gh c r sd u = xt_gh c r sd t) {nx kp : Nat} (hh : xt_Hi S nx kp) : xt_CtX E l yX5_swap cX5_swap 3 (some Jvm.ClassFile.FieldType.int) 7 114 1 6 [.ref (E.1 0), .int (nI t), .int (nI u)] S (xt_Eq (some (.int (xt_exch c (xt_gl c sd t) (xt_gt c sd t) (xt_gl c sd u) (xt_gt c sd u) (xt_gw c sd t) (xt_gh c r sd t) ((xt_keep S nx kp).2.1 2)).2)) (xt_sA (xt_keep S nx kp) 2 (xt_exch c (xt_gl c sd t) (xt_gt c sd t) (xt_gl c sd u) (xt_gt c sd u) (xt_gw c sd t) (xt_gh c r sd t) ((xt_keep S nx kp).2.1 2)).1)) QX := by
  refine xt_bodyX (by decide +kernel) (xt_all rfl) (Nat.le_of_ble_eq_true rfl) (fun cx C hl9 hx9 => ?_)
  show xt_X E cx _ 0 0 0 [some (.ref (E.1 0)), some (.int (nI t)), some (.int (nI u))] [] S
  have hP9 := hP
  obtain ⟨hc, hr, hs, hv, hb, b1, b2, b3, b4, b5, b6, b7⟩ := hP
  have hn := xt_nt_b ⟨b1, b2⟩ ⟨b3, b4⟩ b5
  have hT := xt_tile_b ⟨b1, b2⟩ ⟨b3, b4⟩ b5 ht
  have hT2 := xt_tile_b ⟨b1, b2⟩ ⟨b3, b4⟩ b5 hu
  refine xt_aload_n C dX5_swap_0 rfl ?_
  refine xt_get (f := 0) C xt_u5 rfl (by decide) (xt_cl0 _ _) (by decide) lkX5_10 rfl dX5_swap_1 ?_
  refine xt_iload_n C dX5_swap_4 rfl ?_
  refine xt_cVN C mv_X1_hasTile lkX5_164 (ct_hasTile hP9) rfl (by decide) (xt_cl1 _ _) rfl (by decide) rfl (Nat.le_of_ble_eq_true rfl) dX5_swap_5 ?_
  refine xt_if_eqB (tgt := 22) C dX5_swap_8 (by decide) (fun c8 => ?_) (fun c8 => ?_)
  · exact absurd ⟨t, ht, rfl⟩ c8
  · refine xt_aload_n C dX5_swap_11 rfl ?_
    refine xt_get (f := 0) C xt_u5 rfl (by decide) (xt_cl0 _ _) (by decide) lkX5_10 rfl dX5_swap_12 ?_
    refine xt_iload_n C dX5_swap_15 rfl ?_
    refine xt_cVN C mv_X1_hasTile lkX5_164 (ct_hasTile hP9) rfl (by decide) (xt_cl1 _ _) rfl (by decide) rfl (Nat.le_of_ble_eq_true rfl) dX5_swap_16 ?_
    refine xt_if_neB (tgt := 32) C dX5_swap_19 (by decide) (fun c19 => ?_) (fun c19 => ?_)
    · refine xt_aload_n C dX5_swap_32 rfl ?_
      refine xt_get (f := 0) C xt_u5 rfl (by decide) (xt_cl0 _ _) (by decide) lkX5_10 rfl dX5_swap_33 ?_
      refine xt_iload_n C dX5_swap_36 rfl ?_
      refine xt_cVN C mv_X1_widthOf lkX5_217 (ct_widthOf hP9 ht) rfl (by decide) (xt_cl1 _ _) rfl (by decide) rfl (Nat.le_of_ble_eq_true rfl) dX5_swap_37 ?_
      refine xt_aload_n C dX5_swap_40 rfl ?_
      refine xt_get (f := 0) C xt_u5 rfl (by decide) (xt_cl0 _ _) (by decide) lkX5_10 rfl dX5_swap_41 ?_
      refine xt_iload_n C dX5_swap_44 rfl ?_
      refine xt_cVN C mv_X1_widthOf lkX5_217 (ct_widthOf hP9 hu) rfl (by decide) (xt_cl1 _ _) rfl (by decide) rfl (Nat.le_of_ble_eq_true rfl) dX5_swap_45 ?_
      refine xt_icmp_neN (tgt := 70) C dX5_swap_48 (by decide) (by omega) (by omega) (fun c48 => ?_) (fun c48 => ?_)
      · exact absurd ew.symm c48
      · refine xt_aload_n C dX5_swap_51 rfl ?_
        refine xt_get (f := 0) C xt_u5 rfl (by decide) (xt_cl0 _ _) (by decide) lkX5_10 rfl dX5_swap_52 ?_
        refine xt_iload_n C dX5_swap_55 rfl ?_
        refine xt_cVN C mv_X1_heightOf lkX5_220 (ct_heightOf hP9 ht) rfl (by decide) (xt_cl1 _ _) rfl (by decide) rfl (Nat.le_of_ble_eq_true rfl) dX5_swap_56 ?_
        refine xt_aload_n C dX5_swap_59 rfl ?_
        refine xt_get (f := 0) C xt_u5 rfl (by decide) (xt_cl0 _ _) (by decide) lkX5_10 rfl dX5_swap_60 ?_
        refine xt_iload_n C dX5_swap_63 rfl ?_
        refine xt_cVN C mv_X1_heightOf lkX5_220 (ct_heightOf hP9 hu) rfl (by decide) (xt_cl1 _ _) rfl (by decide) rfl (Nat.le_of_ble_eq_true rfl) dX5_swap_64 ?_
        refine xt_icmp_eqN (tgt := 87) C dX5_swap_67 (by decide) (by omega) (by omega) (fun c67 => ?_) (fun c67 => ?_)
        · refine xt_aload_n C dX5_swap_87 rfl ?_
          refine xt_get (f := 3) C xt_u5 rfl (by decide) (xt_cl0 _ _) (by decide) lkX5_26 rfl dX5_swap_88 ?_
          refine xt_aload_n C dX5_swap_91 rfl ?_
          refine xt_get (f := 0) C xt_u5 rfl (by decide) (xt_cl0 _ _) (by decide) lkX5_10 rfl dX5_swap_92 ?_
          refine xt_cVNn C mv_X0_keep lkX5_72 (ct_keep hh.1 hh.2.1 hh.2.2.1 hh.2.2.2) rfl (by decide) (xt_cl7 _ _) rfl (by decide) rfl (Nat.le_of_ble_eq_true rfl) dX5_swap_95 ?_
          refine xt_aload_n C dX5_swap_98 rfl ?_
          refine xt_get (f := 0) C xt_u5 rfl (by decide) (xt_cl0 _ _) (by decide) lkX5_10 rfl dX5_swap_99 ?_
          refine xt_iload_n C dX5_swap_102 rfl ?_
          refine xt_iload_n C dX5_swap_103 rfl ?_
          refine xt_cVN C mv_X1_exchange lkX5_225 (ct_exchange (by exact xt_keep_P (nx := nx) (kp := kp) hP9) ht hu ew eh) rfl (by decide) (xt_cl1 _ _) rfl (by decide) rfl (Nat.le_of_ble_eq_true rfl) dX5_swap_104 ?_
          refine xt_ofM ?_
          exact xt_iret C dX5_swap_107 ⟨by decide, by decide⟩ ⟨rfl, rfl⟩
        · exact absurd eh.symm c67
    · exact absurd ⟨u, hu, rfl⟩ c19
set_option maxRecDepth 20000 in
set_option maxHeartbeats 2000000 in
theorem ct_swap_bad2 {Q : Option Value → xt_St → Prop} (hst : l.stackTraces = false) {c r sd lv bo : Nat} (hP : xt_Pic S 1 c r sd lv bo) {t : Nat} (ht : t < xt_nt c r sd) {u : Nat} (hu : u < xt_nt c r sd) (hd : ¬ (xt_gw c sd u = xt_gw c sd t ∧ xt_gh c r sd u = xt_gh c r sd t)) : xt_CtX E l yX5_swap cX5_swap 3 (some Jvm.ClassFile.FieldType.int) 7 114 1 6 [.ref (E.1 0), .int (nI t), .int (nI u)] S Q (xt_Ex "java/lang/UnsupportedOperationException" (xt_sN (xt_sN S 0 8 (nI 6)) 0 9 (nI 0))) := by
  refine xt_bodyX (by decide +kernel) (xt_all rfl) (Nat.le_of_ble_eq_true rfl) (fun cx C hl9 hx9 => ?_)
  show xt_X E cx _ 0 0 0 [some (.ref (E.1 0)), some (.int (nI t)), some (.int (nI u))] [] S
  have hP9 := hP
  obtain ⟨hc, hr, hs, hv, hb, b1, b2, b3, b4, b5, b6, b7⟩ := hP
  have hn := xt_nt_b ⟨b1, b2⟩ ⟨b3, b4⟩ b5
  have hT := xt_tile_b ⟨b1, b2⟩ ⟨b3, b4⟩ b5 ht
  have hT2 := xt_tile_b ⟨b1, b2⟩ ⟨b3, b4⟩ b5 hu
  refine xt_aload_n C dX5_swap_0 rfl ?_
  refine xt_get (f := 0) C xt_u5 rfl (by decide) (xt_cl0 _ _) (by decide) lkX5_10 rfl dX5_swap_1 ?_
  refine xt_iload_n C dX5_swap_4 rfl ?_
  refine xt_cVN C mv_X1_hasTile lkX5_164 (ct_hasTile hP9) rfl (by decide) (xt_cl1 _ _) rfl (by decide) rfl (Nat.le_of_ble_eq_true rfl) dX5_swap_5 ?_
  refine xt_if_eqB (tgt := 22) C dX5_swap_8 (by decide) (fun c8 => ?_) (fun c8 => ?_)
  · exact absurd ⟨t, ht, rfl⟩ c8
  · refine xt_aload_n C dX5_swap_11 rfl ?_
    refine xt_get (f := 0) C xt_u5 rfl (by decide) (xt_cl0 _ _) (by decide) lkX5_10 rfl dX5_swap_12 ?_
    refine xt_iload_n C dX5_swap_15 rfl ?_
    refine xt_cVN C mv_X1_hasTile lkX5_164 (ct_hasTile hP9) rfl (by decide) (xt_cl1 _ _) rfl (by decide) rfl (Nat.le_of_ble_eq_true rfl) dX5_swap_16 ?_
    refine xt_if_neB (tgt := 32) C dX5_swap_19 (by decide) (fun c19 => ?_) (fun c19 => ?_)
    · refine xt_aload_n C dX5_swap_32 rfl ?_
      refine xt_get (f := 0) C xt_u5 rfl (by decide) (xt_cl0 _ _) (by decide) lkX5_10 rfl dX5_swap_33 ?_
      refine xt_iload_n C dX5_swap_36 rfl ?_
      refine xt_cVN C mv_X1_widthOf lkX5_217 (ct_widthOf hP9 ht) rfl (by decide) (xt_cl1 _ _) rfl (by decide) rfl (Nat.le_of_ble_eq_true rfl) dX5_swap_37 ?_
      refine xt_aload_n C dX5_swap_40 rfl ?_
      refine xt_get (f := 0) C xt_u5 rfl (by decide) (xt_cl0 _ _) (by decide) lkX5_10 rfl dX5_swap_41 ?_
      refine xt_iload_n C dX5_swap_44 rfl ?_
      refine xt_cVN C mv_X1_widthOf lkX5_217 (ct_widthOf hP9 hu) rfl (by decide) (xt_cl1 _ _) rfl (by decide) rfl (Nat.le_of_ble_eq_true rfl) dX5_swap_45 ?_
      refine xt_icmp_neN (tgt := 70) C dX5_swap_48 (by decide) (by omega) (by omega) (fun c48 => ?_) (fun c48 => ?_)
      · refine xt_aload_n C dX5_swap_70 rfl ?_
        refine xt_bipush (v := nI 6) C dX5_swap_71 (by decide) ?_
        refine xt_iconst (v := nI 0) C dX5_swap_73 rfl ?_
        refine xt_cVn C mv_X5_refuse lkX5_206 ct_refuse rfl (by decide) (xt_cl0 _ _) rfl (by decide) rfl (Nat.le_of_ble_eq_true rfl) dX5_swap_74 ?_
        exact xt_throwS (i := 11) C (by rw [hl9]; exact hst) hx9 xw_209 rfl dX5_swap_77 dX5_swap_80 dX5_swap_81 dX5_swap_83 dX5_swap_86 rfl ⟨by decide, by decide, by decide, by decide⟩ (by decide) ⟨by decide, by decide⟩ ⟨rfl, rfl⟩
      · refine xt_aload_n C dX5_swap_51 rfl ?_
        refine xt_get (f := 0) C xt_u5 rfl (by decide) (xt_cl0 _ _) (by decide) lkX5_10 rfl dX5_swap_52 ?_
        refine xt_iload_n C dX5_swap_55 rfl ?_
        refine xt_cVN C mv_X1_heightOf lkX5_220 (ct_heightOf hP9 ht) rfl (by decide) (xt_cl1 _ _) rfl (by decide) rfl (Nat.le_of_ble_eq_true rfl) dX5_swap_56 ?_
        refine xt_aload_n C dX5_swap_59 rfl ?_
        refine xt_get (f := 0) C xt_u5 rfl (by decide) (xt_cl0 _ _) (by decide) lkX5_10 rfl dX5_swap_60 ?_
        refine xt_iload_n C dX5_swap_63 rfl ?_
        refine xt_cVN C mv_X1_heightOf lkX5_220 (ct_heightOf hP9 hu) rfl (by decide) (xt_cl1 _ _) rfl (by decide) rfl (Nat.le_of_ble_eq_true rfl) dX5_swap_64 ?_
        refine xt_icmp_eqN (tgt := 87) C dX5_swap_67 (by decide) (by omega) (by omega) (fun c67 => ?_) (fun c67 => ?_)
        · exact absurd ⟨c48.symm, c67.symm⟩ hd
        · refine xt_aload_n C dX5_swap_70 rfl ?_
          refine xt_bipush (v := nI 6) C dX5_swap_71 (by decide) ?_
          refine xt_iconst (v := nI 0) C dX5_swap_73 rfl ?_
          refine xt_cVn C mv_X5_refuse lkX5_206 ct_refuse rfl (by decide) (xt_cl0 _ _) rfl (by decide) rfl (Nat.le_of_ble_eq_true rfl) dX5_swap_74 ?_
          exact xt_throwS (i := 11) C (by rw [hl9]; exact hst) hx9 xw_209 rfl dX5_swap_77 dX5_swap_80 dX5_swap_81 dX5_swap_83 dX5_swap_86 rfl ⟨by decide, by decide, by decide, by decide⟩ (by decide) ⟨by decide, by decide⟩ ⟨rfl, rfl⟩
    · exact absurd ⟨u, hu, rfl⟩ c19
set_option maxRecDepth 20000 in
set_option maxHeartbeats 2000000 in
theorem ct_swap_bad1 {Q : Option Value → xt_St → Prop} (hst : l.stackTraces = false) {c r sd lv bo : Nat} (hP : xt_Pic S 1 c r sd lv bo) {a b9 : Int32} (hb : ¬ ((∃ j, j < xt_nt c r sd ∧ a = nI j) ∧ ∃ j, j < xt_nt c r sd ∧ b9 = nI j)) : xt_CtX E l yX5_swap cX5_swap 3 (some Jvm.ClassFile.FieldType.int) 7 114 1 6 [.ref (E.1 0), .int a, .int b9] S Q (xt_Ex "java/lang/IndexOutOfBoundsException" S) := by
  refine xt_bodyX (by decide +kernel) (xt_all rfl) (Nat.le_of_ble_eq_true rfl) (fun cx C hl9 hx9 => ?_)
  show xt_X E cx _ 0 0 0 [some (.ref (E.1 0)), some (.int a), some (.int b9)] [] S
  refine xt_aload_n C dX5_swap_0 rfl ?_
  refine xt_get (f := 0) C xt_u5 rfl (by decide) (xt_cl0 _ _) (by decide) lkX5_10 rfl dX5_swap_1 ?_
  refine xt_iload_n C dX5_swap_4 rfl ?_
  refine xt_cVN C mv_X1_hasTile lkX5_164 (ct_hasTile hP) rfl (by decide) (xt_cl1 _ _) rfl (by decide) rfl (Nat.le_of_ble_eq_true rfl) dX5_swap_5 ?_
  refine xt_if_eqB (tgt := 22) C dX5_swap_8 (by decide) (fun c8 => ?_) (fun c8 => ?_)
  · exact xt_throwS (i := 7) C (by rw [hl9]; exact hst) hx9 xw_134 rfl dX5_swap_22 dX5_swap_25 dX5_swap_26 dX5_swap_28 dX5_swap_31 rfl ⟨by decide, by decide, by decide, by decide⟩ (by decide) ⟨by decide, by decide⟩ ⟨rfl, rfl⟩
  · refine xt_aload_n C dX5_swap_11 rfl ?_
    refine xt_get (f := 0) C xt_u5 rfl (by decide) (xt_cl0 _ _) (by decide) lkX5_10 rfl dX5_swap_12 ?_
    refine xt_iload_n C dX5_swap_15 rfl ?_
    refine xt_cVN C mv_X1_hasTile lkX5_164 (ct_hasTile hP) rfl (by decide) (xt_cl1 _ _) rfl (by decide) rfl (Nat.le_of_ble_eq_true rfl) dX5_swap_16 ?_
    refine xt_if_neB (tgt := 32) C dX5_swap_19 (by decide) (fun c19 => ?_) (fun c19 => ?_)
    · exact absurd ⟨c8, c19⟩ hb
    · exact xt_throwS (i := 7) C (by rw [hl9]; exact hst) hx9 xw_134 rfl dX5_swap_22 dX5_swap_25 dX5_swap_26 dX5_swap_28 dX5_swap_31 rfl ⟨by decide, by decide, by decide, by decide⟩ (by decide) ⟨by decide, by decide⟩ ⟨rfl, rfl⟩
set_option maxRecDepth 20000 in
set_option maxHeartbeats 2000000 in
theorem ct_soften_ok {QX : String → xt_St → Prop} {c r sd pl pb : Nat} (hP : xt_Pic S 1 c r sd pl pb) {t : Nat} (ht : t < xt_nt c r sd) (hk : ∀ j, j < 256 → S.2.1 3 j = nI 0 ∨ S.2.1 3 j = nI 1) {nx kp : Nat} (hh : xt_Hi S nx kp) {n : Nat} (hn9 : n ≤ 9) : xt_CtX E l yX5_soften cX5_soften 3 (some Jvm.ClassFile.FieldType.int) 7 131 1 6 [.ref (E.1 0), .int (nI t), .int (nI n)] S (xt_Ep (some (.int (xt_N2 (fun x y => ¬ xt_abs (xt_tJ c r sd pl pb t n (S.2.1 2) (S.2.1 3) (8 * y + x) - xt_tV c sd t (S.2.1 2) (8 * y + x)) = 0) (xt_gw c sd t) (xt_gh c r sd t)))) (fun S9 => ∃ T, xt_fr S T ∧ S9 = xt_sA (xt_keep T nx kp) 2 (xt_put2 c (xt_gl c sd t) (xt_gt c sd t) (xt_gw c sd t) (xt_gh c r sd t) (xt_tJ c r sd pl pb t n (S.2.1 2) (S.2.1 3)) (S.2.1 2)))) QX := by
  refine xt_bodyX (by decide +kernel) (xt_all rfl) (Nat.le_of_ble_eq_true rfl) (fun cx C hl9 hx9 => ?_)
  show xt_X E cx _ 0 0 0 [some (.ref (E.1 0)), some (.int (nI t)), some (.int (nI n))] [] S
  have hP9 := hP
  obtain ⟨hc, hr, hs, hv, hb, b1, b2, b3, b4, b5, b6, b7⟩ := hP
  have hn := xt_nt_b ⟨b1, b2⟩ ⟨b3, b4⟩ b5
  have hT := xt_tile_b ⟨b1, b2⟩ ⟨b3, b4⟩ b5 ht
  refine xt_aload_n C dX5_soften_0 rfl ?_
  refine xt_get (f := 0) C xt_u5 rfl (by decide) (xt_cl0 _ _) (by decide) lkX5_10 rfl dX5_soften_1 ?_
  refine xt_iload_n C dX5_soften_4 rfl ?_
  refine xt_cVN C mv_X1_hasTile lkX5_164 (ct_hasTile hP9) rfl (by decide) (xt_cl1 _ _) rfl (by decide) rfl (Nat.le_of_ble_eq_true rfl) dX5_soften_5 ?_
  refine xt_if_neB (tgt := 21) C dX5_soften_8 (by decide) (fun c8 => ?_) (fun c8 => ?_)
  · refine xt_iload_n C dX5_soften_21 rfl ?_
    refine xt_iconst (v := nI 0) C dX5_soften_22 rfl ?_
    refine xt_bipush (v := nI 9) C dX5_soften_23 (by decide) ?_
    refine xt_cS C ms_X5_isBetween lkX5_61 ct_between rfl (by decide) rfl (Nat.le_of_ble_eq_true rfl) dX5_soften_25 ?_
    refine xt_if_neB (tgt := 41) C dX5_soften_28 (by decide) (fun c28 => ?_) (fun c28 => ?_)
    · refine xt_aload_n C dX5_soften_41 rfl ?_
      refine xt_get (f := 4) C xt_u5 rfl (by decide) (xt_cl0 _ _) (by decide) lkX5_33 rfl dX5_soften_42 ?_
      refine xt_aload_n C dX5_soften_45 rfl ?_
      refine xt_get (f := 0) C xt_u5 rfl (by decide) (xt_cl0 _ _) (by decide) lkX5_10 rfl dX5_soften_46 ?_
      refine xt_iload_n C dX5_soften_49 rfl ?_
      refine xt_cVNpn C mv_X4_load lkX5_170 (ct_load (by exact hP9) ht hk) rfl (by decide) (xt_cl33 _ _) rfl (by decide) rfl (Nat.le_of_ble_eq_true rfl) dX5_soften_50 (fun S9 hq9 => ?_)
      obtain ⟨hfr, hTL0⟩ := hq9
      have hTL : xt_TL S9 c r sd pl pb t (S.2.1 2) (S.2.1 3) := hTL0
      rename xt_St => T1
      refine xt_aload_n C dX5_soften_53 rfl ?_
      refine xt_get (f := 4) C xt_u5 rfl (by decide) (xt_cl0 _ _) (by decide) lkX5_33 rfl dX5_soften_54 ?_
      refine xt_iload_n C dX5_soften_57 rfl ?_
      refine xt_cVNpn C mv_X4_decode lkX5_230 (ct_decode (by exact xt_TL_n hTL) (by exact xt_TL_m hTL) hn9) rfl (by decide) (xt_cl33 _ _) rfl (by decide) rfl (Nat.le_of_ble_eq_true rfl) dX5_soften_58 (fun S9 hq9 => ?_)
      obtain ⟨g9, f9, rfl, hJ9⟩ := hq9
      have hTL1 : xt_TL (xt_sA (xt_sA T1 41 g9) 40 f9) c r sd pl pb t (S.2.1 2) (S.2.1 3) := xt_TL_k hTL rfl (fun i h1 h2 => by rw [xt_sA_n (by omega), xt_sA_n (by omega)])
      have hfr1 : xt_fr S (xt_sA (xt_sA T1 41 g9) 40 f9) := xt_fr_A (by omega) (xt_fr_A (by omega) hfr)
      have hJ1 : ∀ p, xt_in (xt_gw c sd t) (xt_gh c r sd t) p → (xt_sA (xt_sA T1 41 g9) 40 f9).2.1 40 p = (xt_tJ c r sd pl pb t n (S.2.1 2) (S.2.1 3)) p := fun p hp => (hJ9 p hp).trans (xt_TL_J hTL p hp)
      generalize xt_sA (xt_sA T1 41 g9) 40 f9 = T at hTL1 hfr1 hJ1 ⊢
      have hhT : xt_Hi T nx kp := ⟨(hfr1.1 7 1 (by decide)).trans hh.1, (hfr1.1 7 2 (by decide)).trans hh.2.1, hh.2.2⟩
      refine xt_aload_n C dX5_soften_61 rfl ?_
      refine xt_get (f := 3) C xt_u5 rfl (by decide) (xt_cl0 _ _) (by decide) lkX5_26 rfl dX5_soften_62 ?_
      refine xt_aload_n C dX5_soften_65 rfl ?_
      refine xt_get (f := 0) C xt_u5 rfl (by decide) (xt_cl0 _ _) (by decide) lkX5_10 rfl dX5_soften_66 ?_
      refine xt_cVNn C mv_X0_keep lkX5_72 (ct_keep hhT.1 hhT.2.1 hhT.2.2.1 hhT.2.2.2) rfl (by decide) (xt_cl7 _ _) rfl (by decide) rfl (Nat.le_of_ble_eq_true rfl) dX5_soften_69 ?_
      have h8 := hh.2.2.1
      have hPT := xt_fr_Pic hfr1 hP9
      have hTK : xt_TL (xt_keep T nx kp) c r sd pl pb t (S.2.1 2) (S.2.1 3) := xt_TL_k hTL1 (funext fun f => xt_keep_1 (by decide) (by omega)) (fun i h1 h2 => xt_keep_2 (by omega) (by omega))
      refine xt_aload_n C dX5_soften_72 rfl ?_
      refine xt_get (f := 4) C xt_u5 rfl (by decide) (xt_cl0 _ _) (by decide) lkX5_33 rfl dX5_soften_73 ?_
      refine xt_aload_n C dX5_soften_76 rfl ?_
      refine xt_get (f := 0) C xt_u5 rfl (by decide) (xt_cl0 _ _) (by decide) lkX5_10 rfl dX5_soften_77 ?_
      refine xt_cVN C mv_X4_storeDecoded lkX5_234 (ct_store (by exact xt_TL_n hTK) (xt_keep_P hPT) (by omega) (by omega) (J := (xt_tJ c r sd pl pb t n (S.2.1 2) (S.2.1 3))) (fun p hp => by rw [xt_keep_2 (by omega) (by omega)]; exact hJ1 p hp)) rfl (by decide) (xt_cl33 _ _) rfl (by decide) rfl (Nat.le_of_ble_eq_true rfl) dX5_soften_80 ?_
      refine xt_ofM ?_
      refine xt_iret C dX5_soften_83 ⟨by decide, by decide⟩ ?_
      have e9 := xt_N2_c (P := fun x y => ¬ xt_abs ((xt_tJ c r sd pl pb t n (S.2.1 2) (S.2.1 3)) (8 * y + x) - (xt_keep T nx kp).2.1 34 (8 * y + x)) = 0) (P' := fun x y => ¬ xt_abs ((xt_tJ c r sd pl pb t n (S.2.1 2) (S.2.1 3)) (8 * y + x) - xt_tV c sd t (S.2.1 2) (8 * y + x)) = 0) (w := xt_gw c sd t) (h := xt_gh c r sd t) (fun y x hy hx => by rw [(xt_TL_c hTK (8 * y + x) ⟨by omega, by omega⟩).2])
      rw [e9]
      exact ⟨rfl, T, hfr1, by rw [show (xt_keep T nx kp).2.1 2 = S.2.1 2 from (xt_keep_2 (by omega) (by omega)).trans (hfr1.2.1 2 (Or.inl (by decide)))]⟩
    · exact absurd ⟨nI_pos' (by omega), nI_le hn9 (by omega)⟩ c28
  · exact absurd ⟨t, ht, rfl⟩ c8
set_option maxRecDepth 20000 in
set_option maxHeartbeats 2000000 in
theorem ct_soften_bad1 {Q : Option Value → xt_St → Prop} (hst : l.stackTraces = false) {c r sd pl pb : Nat} (hP : xt_Pic S 1 c r sd pl pb) {a n9 : Int32} (hb : ¬ ∃ j, j < xt_nt c r sd ∧ a = nI j) : xt_CtX E l yX5_soften cX5_soften 3 (some Jvm.ClassFile.FieldType.int) 7 131 1 6 [.ref (E.1 0), .int a, .int n9] S Q (xt_Ex "java/lang/IndexOutOfBoundsException" S) := by
  refine xt_bodyX (by decide +kernel) (xt_all rfl) (Nat.le_of_ble_eq_true rfl) (fun cx C hl9 hx9 => ?_)
  show xt_X E cx _ 0 0 0 [some (.ref (E.1 0)), some (.int a), some (.int n9)] [] S
  refine xt_aload_n C dX5_soften_0 rfl ?_
  refine xt_get (f := 0) C xt_u5 rfl (by decide) (xt_cl0 _ _) (by decide) lkX5_10 rfl dX5_soften_1 ?_
  refine xt_iload_n C dX5_soften_4 rfl ?_
  refine xt_cVN C mv_X1_hasTile lkX5_164 (ct_hasTile hP) rfl (by decide) (xt_cl1 _ _) rfl (by decide) rfl (Nat.le_of_ble_eq_true rfl) dX5_soften_5 ?_
  refine xt_if_neB (tgt := 21) C dX5_soften_8 (by decide) (fun c8 => ?_) (fun c8 => ?_)
  · exact absurd c8 hb
  · exact xt_throwS (i := 7) C (by rw [hl9]; exact hst) hx9 xw_134 rfl dX5_soften_11 dX5_soften_14 dX5_soften_15 dX5_soften_17 dX5_soften_20 rfl ⟨by decide, by decide, by decide, by decide⟩ (by decide) ⟨by decide, by decide⟩ ⟨rfl, rfl⟩
set_option maxRecDepth 20000 in
set_option maxHeartbeats 2000000 in
theorem ct_soften_bad2 {Q : Option Value → xt_St → Prop} (hst : l.stackTraces = false) {c r sd pl pb : Nat} (hP : xt_Pic S 1 c r sd pl pb) {a n9 : Int32} (hb : ∃ j, j < xt_nt c r sd ∧ a = nI j) (hn : ¬ (nI 0 ≤ n9 ∧ n9 ≤ nI 9)) : xt_CtX E l yX5_soften cX5_soften 3 (some Jvm.ClassFile.FieldType.int) 7 131 1 6 [.ref (E.1 0), .int a, .int n9] S Q (xt_Ex "java/lang/IllegalArgumentException" S) := by
  refine xt_bodyX (by decide +kernel) (xt_all rfl) (Nat.le_of_ble_eq_true rfl) (fun cx C hl9 hx9 => ?_)
  show xt_X E cx _ 0 0 0 [some (.ref (E.1 0)), some (.int a), some (.int n9)] [] S
  refine xt_aload_n C dX5_soften_0 rfl ?_
  refine xt_get (f := 0) C xt_u5 rfl (by decide) (xt_cl0 _ _) (by decide) lkX5_10 rfl dX5_soften_1 ?_
  refine xt_iload_n C dX5_soften_4 rfl ?_
  refine xt_cVN C mv_X1_hasTile lkX5_164 (ct_hasTile hP) rfl (by decide) (xt_cl1 _ _) rfl (by decide) rfl (Nat.le_of_ble_eq_true rfl) dX5_soften_5 ?_
  refine xt_if_neB (tgt := 21) C dX5_soften_8 (by decide) (fun c8 => ?_) (fun c8 => ?_)
  · refine xt_iload_n C dX5_soften_21 rfl ?_
    refine xt_iconst (v := nI 0) C dX5_soften_22 rfl ?_
    refine xt_bipush (v := nI 9) C dX5_soften_23 (by decide) ?_
    refine xt_cS C ms_X5_isBetween lkX5_61 ct_between rfl (by decide) rfl (Nat.le_of_ble_eq_true rfl) dX5_soften_25 ?_
    refine xt_if_neB (tgt := 41) C dX5_soften_28 (by decide) (fun c28 => ?_) (fun c28 => ?_)
    · exact absurd c28 hn
    · exact xt_throwS (i := 12) C (by rw [hl9]; exact hst) hx9 xw_65 rfl dX5_soften_31 dX5_soften_34 dX5_soften_35 dX5_soften_37 dX5_soften_40 rfl ⟨by decide, by decide, by decide, by decide⟩ (by decide) ⟨by decide, by decide⟩ ⟨rfl, rfl⟩
  · exact absurd hb c8
set_option maxRecDepth 20000 in
set_option maxHeartbeats 2000000 in
theorem ct_descendants_ok {QX : String → xt_St → Prop} {c r sd pl pb : Nat} (hP : xt_Pic S 1 c r sd pl pb) {t : Nat} (ht : t < xt_nt c r sd) (hk : ∀ j, j < 256 → S.2.1 3 j = nI 0 ∨ S.2.1 3 j = nI 1) {x y : Nat} (hx : x < xt_gw c sd t) (hy : y < xt_gh c r sd t) : xt_CtX E l yX5_descendants cX5_descendants 4 (some Jvm.ClassFile.FieldType.int) 7 131 1 6 [.ref (E.1 0), .int (nI t), .int (nI x), .int (nI y)] S (xt_Ep (some (.int (xt_N2 (fun x9 y9 => ∃ j, j < 3 ∧ xt_anc (xt_pf (xt_tD c r sd pl t) (xt_gw c sd t) (xt_gh c r sd t)) (j + 1) (8 * y9 + x9) = some (8 * y + x)) (xt_gw c sd t) (xt_gh c r sd t)))) (fun S9 => xt_fr S S9)) QX := by
  refine xt_bodyX (by decide +kernel) (xt_all rfl) (Nat.le_of_ble_eq_true rfl) (fun cx C hl9 hx9 => ?_)
  show xt_X E cx _ 0 0 0 [some (.ref (E.1 0)), some (.int (nI t)), some (.int (nI x)), some (.int (nI y))] [] S
  have hP9 := hP
  obtain ⟨hc, hr, hs, hv, hb, b1, b2, b3, b4, b5, b6, b7⟩ := hP
  have hn := xt_nt_b ⟨b1, b2⟩ ⟨b3, b4⟩ b5
  have hT := xt_tile_b ⟨b1, b2⟩ ⟨b3, b4⟩ b5 ht
  have hw8 : xt_gw c sd t ≤ 8 := by have := hT; omega
  have hh8 : xt_gh c r sd t ≤ 8 := by have := hT; omega
  have hp64 : 8 * y + x < 64 := by omega
  refine xt_aload_n C dX5_descendants_0 rfl ?_
  refine xt_iload_n C dX5_descendants_1 rfl ?_
  refine xt_iload_n C dX5_descendants_2 rfl ?_
  refine xt_iload_n C dX5_descendants_3 rfl ?_
  refine xt_cV C mv_X5_hasPlace lkX5_238 (ct_hasPlace hP9) rfl (by decide) (xt_cl0 _ _) rfl (by decide) rfl (Nat.le_of_ble_eq_true rfl) dX5_descendants_4 ?_
  refine xt_if_neB (tgt := 20) C dX5_descendants_7 (by decide) (fun c7 => ?_) (fun c7 => ?_)
  · refine xt_aload_n C dX5_descendants_20 rfl ?_
    refine xt_get (f := 4) C xt_u5 rfl (by decide) (xt_cl0 _ _) (by decide) lkX5_33 rfl dX5_descendants_21 ?_
    refine xt_aload_n C dX5_descendants_24 rfl ?_
    refine xt_get (f := 0) C xt_u5 rfl (by decide) (xt_cl0 _ _) (by decide) lkX5_10 rfl dX5_descendants_25 ?_
    refine xt_iload_n C dX5_descendants_28 rfl ?_
    refine xt_cVNpn C mv_X4_load lkX5_170 (ct_load (by exact hP9) ht hk) rfl (by decide) (xt_cl33 _ _) rfl (by decide) rfl (Nat.le_of_ble_eq_true rfl) dX5_descendants_29 (fun S9 hq9 => ?_)
    obtain ⟨hfr, hTL0⟩ := hq9
    have hTL : xt_TL S9 c r sd pl pb t (S.2.1 2) (S.2.1 3) := hTL0
    refine xt_aload_n C dX5_descendants_32 rfl ?_
    refine xt_get (f := 4) C xt_u5 rfl (by decide) (xt_cl0 _ _) (by decide) lkX5_33 rfl dX5_descendants_33 ?_
    refine xt_iload_n C dX5_descendants_36 rfl ?_
    refine xt_iload_n C dX5_descendants_37 rfl ?_
    refine xt_cS C ms_X5_placeOf lkX5_243 ct_place rfl (by decide) rfl (Nat.le_of_ble_eq_true rfl) dX5_descendants_38 ?_
    refine xt_cVN C mv_X4_countBelow lkX5_259 (ct_countBelow (by exact xt_TL_n hTL) (by exact xt_TL_p hTL) (xt_TL_T hTL) hp64) rfl (by decide) (xt_cl33 _ _) rfl (by decide) rfl (Nat.le_of_ble_eq_true rfl) dX5_descendants_41 ?_
    refine xt_ofM ?_
    exact xt_iret C dX5_descendants_44 ⟨by decide, by decide⟩ ⟨rfl, hfr⟩
  · exact absurd ⟨t, ht, rfl, ⟨x, hx, rfl⟩, y, hy, rfl⟩ c7
set_option maxRecDepth 20000 in
set_option maxHeartbeats 2000000 in
theorem ct_descendants_bad {Q : Option Value → xt_St → Prop} (hst : l.stackTraces = false) {c r sd pl pb : Nat} (hP : xt_Pic S 1 c r sd pl pb) {a x y : Int32} (hb : ¬ (∃ j, j < xt_nt c r sd ∧ a = nI j ∧ xt_pix (xt_gw c sd j) (xt_gh c r sd j) x y)) : xt_CtX E l yX5_descendants cX5_descendants 4 (some Jvm.ClassFile.FieldType.int) 7 131 1 6 [.ref (E.1 0), .int a, .int x, .int y] S Q (xt_Ex "java/lang/IndexOutOfBoundsException" S) := by
  refine xt_bodyX (by decide +kernel) (xt_all rfl) (Nat.le_of_ble_eq_true rfl) (fun cx C hl9 hx9 => ?_)
  show xt_X E cx _ 0 0 0 [some (.ref (E.1 0)), some (.int a), some (.int x), some (.int y)] [] S
  refine xt_aload_n C dX5_descendants_0 rfl ?_
  refine xt_iload_n C dX5_descendants_1 rfl ?_
  refine xt_iload_n C dX5_descendants_2 rfl ?_
  refine xt_iload_n C dX5_descendants_3 rfl ?_
  refine xt_cV C mv_X5_hasPlace lkX5_238 (ct_hasPlace hP) rfl (by decide) (xt_cl0 _ _) rfl (by decide) rfl (Nat.le_of_ble_eq_true rfl) dX5_descendants_4 ?_
  refine xt_if_neB (tgt := 20) C dX5_descendants_7 (by decide) (fun c7 => ?_) (fun c7 => ?_)
  · exact absurd c7 hb
  · exact xt_throwS (i := 13) C (by rw [hl9]; exact hst) hx9 xw_134 rfl dX5_descendants_10 dX5_descendants_13 dX5_descendants_14 dX5_descendants_16 dX5_descendants_19 rfl ⟨by decide, by decide, by decide, by decide⟩ (by decide) ⟨by decide, by decide⟩ ⟨rfl, rfl⟩
set_option maxRecDepth 20000 in
set_option maxHeartbeats 2000000 in
theorem ct_roots_ok {QX : String → xt_St → Prop} {c r sd pl pb : Nat} (hP : xt_Pic S 1 c r sd pl pb) {t : Nat} (ht : t < xt_nt c r sd) (hk : ∀ j, j < 256 → S.2.1 3 j = nI 0 ∨ S.2.1 3 j = nI 1) {n : Nat} (hn9 : n ≤ 9) : xt_CtX E l yX5_roots cX5_roots 3 (some Jvm.ClassFile.FieldType.int) 7 131 1 6 [.ref (E.1 0), .int (nI t), .int (nI n)] S (xt_Ep (some (.int (xt_tR c r sd pl t n (S.2.1 2)))) (fun S9 => xt_fr S S9)) QX := by
  refine xt_bodyX (by decide +kernel) (xt_all rfl) (Nat.le_of_ble_eq_true rfl) (fun cx C hl9 hx9 => ?_)
  show xt_X E cx _ 0 0 0 [some (.ref (E.1 0)), some (.int (nI t)), some (.int (nI n))] [] S
  have hP9 := hP
  obtain ⟨hc, hr, hs, hv, hb, b1, b2, b3, b4, b5, b6, b7⟩ := hP
  have hn := xt_nt_b ⟨b1, b2⟩ ⟨b3, b4⟩ b5
  have hT := xt_tile_b ⟨b1, b2⟩ ⟨b3, b4⟩ b5 ht
  refine xt_aload_n C dX5_roots_0 rfl ?_
  refine xt_get (f := 0) C xt_u5 rfl (by decide) (xt_cl0 _ _) (by decide) lkX5_10 rfl dX5_roots_1 ?_
  refine xt_iload_n C dX5_roots_4 rfl ?_
  refine xt_cVN C mv_X1_hasTile lkX5_164 (ct_hasTile hP9) rfl (by decide) (xt_cl1 _ _) rfl (by decide) rfl (Nat.le_of_ble_eq_true rfl) dX5_roots_5 ?_
  refine xt_if_neB (tgt := 21) C dX5_roots_8 (by decide) (fun c8 => ?_) (fun c8 => ?_)
  · refine xt_iload_n C dX5_roots_21 rfl ?_
    refine xt_iconst (v := nI 0) C dX5_roots_22 rfl ?_
    refine xt_bipush (v := nI 9) C dX5_roots_23 (by decide) ?_
    refine xt_cS C ms_X5_isBetween lkX5_61 ct_between rfl (by decide) rfl (Nat.le_of_ble_eq_true rfl) dX5_roots_25 ?_
    refine xt_if_neB (tgt := 42) C dX5_roots_28 (by decide) (fun c28 => ?_) (fun c28 => ?_)
    · refine xt_aload_n C dX5_roots_42 rfl ?_
      refine xt_get (f := 4) C xt_u5 rfl (by decide) (xt_cl0 _ _) (by decide) lkX5_33 rfl dX5_roots_43 ?_
      refine xt_aload_n C dX5_roots_46 rfl ?_
      refine xt_get (f := 0) C xt_u5 rfl (by decide) (xt_cl0 _ _) (by decide) lkX5_10 rfl dX5_roots_47 ?_
      refine xt_iload_n C dX5_roots_50 rfl ?_
      refine xt_cVNpn C mv_X4_load lkX5_170 (ct_load (by exact hP9) ht hk) rfl (by decide) (xt_cl33 _ _) rfl (by decide) rfl (Nat.le_of_ble_eq_true rfl) dX5_roots_51 (fun S9 hq9 => ?_)
      obtain ⟨hfr, hTL0⟩ := hq9
      have hTL : xt_TL S9 c r sd pl pb t (S.2.1 2) (S.2.1 3) := hTL0
      rename xt_St => T1
      refine xt_aload_n C dX5_roots_54 rfl ?_
      refine xt_get (f := 4) C xt_u5 rfl (by decide) (xt_cl0 _ _) (by decide) lkX5_33 rfl dX5_roots_55 ?_
      refine xt_iload_n C dX5_roots_58 rfl ?_
      refine xt_cVNp C mv_X4_countRoots lkX5_264 (ct_countRoots (by exact xt_TL_n hTL) (by exact xt_TL_p hTL) (xt_TL_T hTL) hn9) rfl (by decide) (xt_cl33 _ _) rfl (by decide) rfl (Nat.le_of_ble_eq_true rfl) dX5_roots_59 (fun S9 hq9 => ?_)
      obtain ⟨g9, rfl⟩ := hq9
      rw [xt_TL_R hTL]
      refine xt_ofM ?_
      exact xt_iret C dX5_roots_62 ⟨by decide, by decide⟩ ⟨rfl, xt_fr_A (by omega) hfr⟩
    · exact absurd ⟨nI_pos' (by omega), nI_le hn9 (by omega)⟩ c28
  · exact absurd ⟨t, ht, rfl⟩ c8
set_option maxRecDepth 20000 in
set_option maxHeartbeats 2000000 in
theorem ct_roots_bad1 {Q : Option Value → xt_St → Prop} (hst : l.stackTraces = false) {c r sd pl pb : Nat} (hP : xt_Pic S 1 c r sd pl pb) {a n9 : Int32} (hb : ¬ ∃ j, j < xt_nt c r sd ∧ a = nI j) : xt_CtX E l yX5_roots cX5_roots 3 (some Jvm.ClassFile.FieldType.int) 7 131 1 6 [.ref (E.1 0), .int a, .int n9] S Q (xt_Ex "java/lang/IndexOutOfBoundsException" S) := by
  refine xt_bodyX (by decide +kernel) (xt_all rfl) (Nat.le_of_ble_eq_true rfl) (fun cx C hl9 hx9 => ?_)
  show xt_X E cx _ 0 0 0 [some (.ref (E.1 0)), some (.int a), some (.int n9)] [] S
  refine xt_aload_n C dX5_roots_0 rfl ?_
  refine xt_get (f := 0) C xt_u5 rfl (by decide) (xt_cl0 _ _) (by decide) lkX5_10 rfl dX5_roots_1 ?_
  refine xt_iload_n C dX5_roots_4 rfl ?_
  refine xt_cVN C mv_X1_hasTile lkX5_164 (ct_hasTile hP) rfl (by decide) (xt_cl1 _ _) rfl (by decide) rfl (Nat.le_of_ble_eq_true rfl) dX5_roots_5 ?_
  refine xt_if_neB (tgt := 21) C dX5_roots_8 (by decide) (fun c8 => ?_) (fun c8 => ?_)
  · exact absurd c8 hb
  · exact xt_throwS (i := 7) C (by rw [hl9]; exact hst) hx9 xw_134 rfl dX5_roots_11 dX5_roots_14 dX5_roots_15 dX5_roots_17 dX5_roots_20 rfl ⟨by decide, by decide, by decide, by decide⟩ (by decide) ⟨by decide, by decide⟩ ⟨rfl, rfl⟩
set_option maxRecDepth 20000 in
set_option maxHeartbeats 2000000 in
theorem ct_roots_bad2 {Q : Option Value → xt_St → Prop} (hst : l.stackTraces = false) {c r sd pl pb : Nat} (hP : xt_Pic S 1 c r sd pl pb) {a n9 : Int32} (hb : ∃ j, j < xt_nt c r sd ∧ a = nI j) (hn : ¬ (nI 0 ≤ n9 ∧ n9 ≤ nI 9)) : xt_CtX E l yX5_roots cX5_roots 3 (some Jvm.ClassFile.FieldType.int) 7 131 1 6 [.ref (E.1 0), .int a, .int n9] S Q (xt_Ex "java/lang/IllegalArgumentException" S) := by
  refine xt_bodyX (by decide +kernel) (xt_all rfl) (Nat.le_of_ble_eq_true rfl) (fun cx C hl9 hx9 => ?_)
  show xt_X E cx _ 0 0 0 [some (.ref (E.1 0)), some (.int a), some (.int n9)] [] S
  refine xt_aload_n C dX5_roots_0 rfl ?_
  refine xt_get (f := 0) C xt_u5 rfl (by decide) (xt_cl0 _ _) (by decide) lkX5_10 rfl dX5_roots_1 ?_
  refine xt_iload_n C dX5_roots_4 rfl ?_
  refine xt_cVN C mv_X1_hasTile lkX5_164 (ct_hasTile hP) rfl (by decide) (xt_cl1 _ _) rfl (by decide) rfl (Nat.le_of_ble_eq_true rfl) dX5_roots_5 ?_
  refine xt_if_neB (tgt := 21) C dX5_roots_8 (by decide) (fun c8 => ?_) (fun c8 => ?_)
  · refine xt_iload_n C dX5_roots_21 rfl ?_
    refine xt_iconst (v := nI 0) C dX5_roots_22 rfl ?_
    refine xt_bipush (v := nI 9) C dX5_roots_23 (by decide) ?_
    refine xt_cS C ms_X5_isBetween lkX5_61 ct_between rfl (by decide) rfl (Nat.le_of_ble_eq_true rfl) dX5_roots_25 ?_
    refine xt_if_neB (tgt := 42) C dX5_roots_28 (by decide) (fun c28 => ?_) (fun c28 => ?_)
    · exact absurd c28 hn
    · exact xt_throwW (i := 16) C (by rw [hl9]; exact hst) hx9 xw_65 rfl dX5_roots_31 dX5_roots_34 dX5_roots_35 dX5_roots_38 dX5_roots_41 rfl ⟨by decide, by decide, by decide, by decide⟩ (by decide) ⟨by decide, by decide⟩ ⟨rfl, rfl⟩
  · exact absurd hb c8
set_option maxRecDepth 20000 in
set_option maxHeartbeats 2000000 in
theorem ct_needed_ok {QX : String → xt_St → Prop} {c r sd pl pb : Nat} (hP : xt_Pic S 1 c r sd pl pb) (hk : ∀ j, j < 256 → S.2.1 3 j = nI 0 ∨ S.2.1 3 j = nI 1) {x y : Nat} (hx : x < c) (hy : y < r) {t : Nat} (et : t = y / sd * xt_ac c sd + x / sd) : xt_CtX E l yX5_needed cX5_needed 3 (some Jvm.ClassFile.FieldType.int) 7 131 1 6 [.ref (E.1 0), .int (nI x), .int (nI y)] S (xt_Ep (some (.int (nI (xt_need (xt_tD c r sd pl t) (xt_gw c sd t) (xt_gh c r sd t) (x - xt_gl c sd t) (y - xt_gt c sd t))))) (fun S9 => xt_fr S S9)) QX := by
  refine xt_bodyX (by decide +kernel) (xt_all rfl) (Nat.le_of_ble_eq_true rfl) (fun cx C hl9 hx9 => ?_)
  show xt_X E cx _ 0 0 0 [some (.ref (E.1 0)), some (.int (nI x)), some (.int (nI y))] [] S
  have hP9 := hP
  obtain ⟨hc, hr, hs, hv, hb, b1, b2, b3, b4, b5, b6, b7⟩ := hP
  obtain ⟨ht, q1, q2, q3, q4⟩ := xt_tof ⟨b1, b2⟩ ⟨b3, b4⟩ b5 hx hy et
  have hn := xt_nt_b ⟨b1, b2⟩ ⟨b3, b4⟩ b5
  have hT := xt_tile_b ⟨b1, b2⟩ ⟨b3, b4⟩ b5 ht
  refine xt_aload_n C dX5_needed_0 rfl ?_
  refine xt_get (f := 0) C xt_u5 rfl (by decide) (xt_cl0 _ _) (by decide) lkX5_10 rfl dX5_needed_1 ?_
  refine xt_iload_n C dX5_needed_4 rfl ?_
  refine xt_iload_n C dX5_needed_5 rfl ?_
  refine xt_cVN C mv_X1_has lkX5_131 (ct_has hP9) rfl (by decide) (xt_cl1 _ _) rfl (by decide) rfl (Nat.le_of_ble_eq_true rfl) dX5_needed_6 ?_
  refine xt_if_neB (tgt := 22) C dX5_needed_9 (by decide) (fun c9 => ?_) (fun c9 => ?_)
  · have hta := ct_tileAt (E := E) (l := cx.2.1) (S := S) hP9 hx hy
    rw [← et] at hta
    refine xt_aload_n C dX5_needed_22 rfl ?_
    refine xt_get (f := 4) C xt_u5 rfl (by decide) (xt_cl0 _ _) (by decide) lkX5_33 rfl dX5_needed_23 ?_
    refine xt_aload_n C dX5_needed_26 rfl ?_
    refine xt_get (f := 0) C xt_u5 rfl (by decide) (xt_cl0 _ _) (by decide) lkX5_10 rfl dX5_needed_27 ?_
    refine xt_aload_n C dX5_needed_30 rfl ?_
    refine xt_get (f := 0) C xt_u5 rfl (by decide) (xt_cl0 _ _) (by decide) lkX5_10 rfl dX5_needed_31 ?_
    refine xt_iload_n C dX5_needed_34 rfl ?_
    refine xt_iload_n C dX5_needed_35 rfl ?_
    refine xt_cVN C mv_X1_tileAt lkX5_161 hta rfl (by decide) (xt_cl1 _ _) rfl (by decide) rfl (Nat.le_of_ble_eq_true rfl) dX5_needed_36 ?_
    refine xt_cVNpn C mv_X4_load lkX5_170 (ct_load (by exact hP9) ht hk) rfl (by decide) (xt_cl33 _ _) rfl (by decide) rfl (Nat.le_of_ble_eq_true rfl) dX5_needed_39 (fun S9 hq9 => ?_)
    obtain ⟨hfr, hTL0⟩ := hq9
    have hTL : xt_TL S9 c r sd pl pb t (S.2.1 2) (S.2.1 3) := hTL0
    obtain ⟨t0, t1, t2, t3, t4, t5, t6⟩ := xt_TL_n hTL
    refine xt_aload_n C dX5_needed_42 rfl ?_
    refine xt_get (f := 4) C xt_u5 rfl (by decide) (xt_cl0 _ _) (by decide) lkX5_33 rfl dX5_needed_43 ?_
    refine xt_iload_n C dX5_needed_46 rfl ?_
    refine xt_aload_n C dX5_needed_47 rfl ?_
    refine xt_get (f := 4) C xt_u5 rfl (by decide) (xt_cl0 _ _) (by decide) lkX5_33 rfl dX5_needed_48 ?_
    refine xt_getN (f := 0) C xt_u4 rfl (by decide) (xt_cl33 _ _) (by decide) lkX5_174 (xt_vI t0) dX5_needed_51 ?_
    refine xt_isubN C dX5_needed_54 (by omega) ?_
    refine xt_iload_n C dX5_needed_55 rfl ?_
    refine xt_aload_n C dX5_needed_56 rfl ?_
    refine xt_get (f := 4) C xt_u5 rfl (by decide) (xt_cl0 _ _) (by decide) lkX5_33 rfl dX5_needed_57 ?_
    refine xt_getN (f := 1) C xt_u4 rfl (by decide) (xt_cl33 _ _) (by decide) lkX5_177 (xt_vI t1) dX5_needed_60 ?_
    refine xt_isubN C dX5_needed_63 (by omega) ?_
    refine xt_cVN C mv_X4_countJoined lkX5_267 (ct_countJoined (by exact xt_TL_n hTL) (by omega) (by omega)) rfl (by decide) (xt_cl33 _ _) rfl (by decide) rfl (Nat.le_of_ble_eq_true rfl) dX5_needed_64 ?_
    refine xt_ofM ?_
    exact xt_iret C dX5_needed_67 ⟨by decide, by decide⟩ ⟨rfl, hfr⟩
  · exact absurd ⟨⟨x, hx, rfl⟩, y, hy, rfl⟩ c9
set_option maxRecDepth 20000 in
set_option maxHeartbeats 2000000 in
theorem ct_needed_bad {Q : Option Value → xt_St → Prop} (hst : l.stackTraces = false) {c r sd pl pb : Nat} (hP : xt_Pic S 1 c r sd pl pb) {x y : Int32} (hb : ¬ xt_pix c r x y) : xt_CtX E l yX5_needed cX5_needed 3 (some Jvm.ClassFile.FieldType.int) 7 131 1 6 [.ref (E.1 0), .int x, .int y] S Q (xt_Ex "java/lang/IndexOutOfBoundsException" S) := by
  refine xt_bodyX (by decide +kernel) (xt_all rfl) (Nat.le_of_ble_eq_true rfl) (fun cx C hl9 hx9 => ?_)
  show xt_X E cx _ 0 0 0 [some (.ref (E.1 0)), some (.int x), some (.int y)] [] S
  refine xt_aload_n C dX5_needed_0 rfl ?_
  refine xt_get (f := 0) C xt_u5 rfl (by decide) (xt_cl0 _ _) (by decide) lkX5_10 rfl dX5_needed_1 ?_
  refine xt_iload_n C dX5_needed_4 rfl ?_
  refine xt_iload_n C dX5_needed_5 rfl ?_
  refine xt_cVN C mv_X1_has lkX5_131 (ct_has hP) rfl (by decide) (xt_cl1 _ _) rfl (by decide) rfl (Nat.le_of_ble_eq_true rfl) dX5_needed_6 ?_
  refine xt_if_neB (tgt := 22) C dX5_needed_9 (by decide) (fun c9 => ?_) (fun c9 => ?_)
  · exact absurd c9 hb
  · exact xt_throwS (i := 3) C (by rw [hl9]; exact hst) hx9 xw_134 rfl dX5_needed_12 dX5_needed_15 dX5_needed_16 dX5_needed_18 dX5_needed_21 rfl ⟨by decide, by decide, by decide, by decide⟩ (by decide) ⟨by decide, by decide⟩ ⟨rfl, rfl⟩
set_option maxRecDepth 20000 in
set_option maxHeartbeats 2000000 in
theorem ct_decoded_ok {QX : String → xt_St → Prop} {c r sd pl pb : Nat} (hP : xt_Pic S 1 c r sd pl pb) (hk : ∀ j, j < 256 → S.2.1 3 j = nI 0 ∨ S.2.1 3 j = nI 1) {x y : Nat} (hx : x < c) (hy : y < r) {t : Nat} (et : t = y / sd * xt_ac c sd + x / sd) {n : Nat} (hn9 : n ≤ 9) : xt_CtX E l yX5_decoded cX5_decoded 4 (some Jvm.ClassFile.FieldType.int) 7 131 1 6 [.ref (E.1 0), .int (nI n), .int (nI x), .int (nI y)] S (xt_Ep (some (.int ((xt_tJ c r sd pl pb t n (S.2.1 2) (S.2.1 3)) (8 * (y - xt_gt c sd t) + (x - xt_gl c sd t))))) (fun S9 => xt_fr S S9)) QX := by
  refine xt_bodyX (by decide +kernel) (xt_all rfl) (Nat.le_of_ble_eq_true rfl) (fun cx C hl9 hx9 => ?_)
  show xt_X E cx _ 0 0 0 [some (.ref (E.1 0)), some (.int (nI n)), some (.int (nI x)), some (.int (nI y))] [] S
  have hP9 := hP
  obtain ⟨hc, hr, hs, hv, hb, b1, b2, b3, b4, b5, b6, b7⟩ := hP
  obtain ⟨ht, q1, q2, q3, q4⟩ := xt_tof ⟨b1, b2⟩ ⟨b3, b4⟩ b5 hx hy et
  have hn := xt_nt_b ⟨b1, b2⟩ ⟨b3, b4⟩ b5
  have hT := xt_tile_b ⟨b1, b2⟩ ⟨b3, b4⟩ b5 ht
  refine xt_iload_n C dX5_decoded_0 rfl ?_
  refine xt_iconst (v := nI 0) C dX5_decoded_1 rfl ?_
  refine xt_bipush (v := nI 9) C dX5_decoded_2 (by decide) ?_
  refine xt_cS C ms_X5_isBetween lkX5_61 ct_between rfl (by decide) rfl (Nat.le_of_ble_eq_true rfl) dX5_decoded_4 ?_
  refine xt_if_neB (tgt := 20) C dX5_decoded_7 (by decide) (fun c7 => ?_) (fun c7 => ?_)
  · refine xt_aload_n C dX5_decoded_20 rfl ?_
    refine xt_get (f := 0) C xt_u5 rfl (by decide) (xt_cl0 _ _) (by decide) lkX5_10 rfl dX5_decoded_21 ?_
    refine xt_iload_n C dX5_decoded_24 rfl ?_
    refine xt_iload_n C dX5_decoded_25 rfl ?_
    refine xt_cVN C mv_X1_has lkX5_131 (ct_has hP9) rfl (by decide) (xt_cl1 _ _) rfl (by decide) rfl (Nat.le_of_ble_eq_true rfl) dX5_decoded_26 ?_
    refine xt_if_neB (tgt := 42) C dX5_decoded_29 (by decide) (fun c29 => ?_) (fun c29 => ?_)
    · have hta := ct_tileAt (E := E) (l := cx.2.1) (S := S) hP9 hx hy
      rw [← et] at hta
      refine xt_aload_n C dX5_decoded_42 rfl ?_
      refine xt_get (f := 4) C xt_u5 rfl (by decide) (xt_cl0 _ _) (by decide) lkX5_33 rfl dX5_decoded_43 ?_
      refine xt_aload_n C dX5_decoded_46 rfl ?_
      refine xt_get (f := 0) C xt_u5 rfl (by decide) (xt_cl0 _ _) (by decide) lkX5_10 rfl dX5_decoded_47 ?_
      refine xt_aload_n C dX5_decoded_50 rfl ?_
      refine xt_get (f := 0) C xt_u5 rfl (by decide) (xt_cl0 _ _) (by decide) lkX5_10 rfl dX5_decoded_51 ?_
      refine xt_iload_n C dX5_decoded_54 rfl ?_
      refine xt_iload_n C dX5_decoded_55 rfl ?_
      refine xt_cVN C mv_X1_tileAt lkX5_161 hta rfl (by decide) (xt_cl1 _ _) rfl (by decide) rfl (Nat.le_of_ble_eq_true rfl) dX5_decoded_56 ?_
      refine xt_cVNpn C mv_X4_load lkX5_170 (ct_load (by exact hP9) ht hk) rfl (by decide) (xt_cl33 _ _) rfl (by decide) rfl (Nat.le_of_ble_eq_true rfl) dX5_decoded_59 (fun S9 hq9 => ?_)
      obtain ⟨hfr, hTL0⟩ := hq9
      have hTL : xt_TL S9 c r sd pl pb t (S.2.1 2) (S.2.1 3) := hTL0
      rename xt_St => T1
      refine xt_aload_n C dX5_decoded_62 rfl ?_
      refine xt_get (f := 4) C xt_u5 rfl (by decide) (xt_cl0 _ _) (by decide) lkX5_33 rfl dX5_decoded_63 ?_
      refine xt_iload_n C dX5_decoded_66 rfl ?_
      refine xt_cVNpn C mv_X4_decode lkX5_230 (ct_decode (by exact xt_TL_n hTL) (by exact xt_TL_m hTL) hn9) rfl (by decide) (xt_cl33 _ _) rfl (by decide) rfl (Nat.le_of_ble_eq_true rfl) dX5_decoded_67 (fun S9 hq9 => ?_)
      obtain ⟨g9, f9, rfl, hJ9⟩ := hq9
      have hTL1 : xt_TL (xt_sA (xt_sA T1 41 g9) 40 f9) c r sd pl pb t (S.2.1 2) (S.2.1 3) := xt_TL_k hTL rfl (fun i h1 h2 => by rw [xt_sA_n (by omega), xt_sA_n (by omega)])
      have hfr1 : xt_fr S (xt_sA (xt_sA T1 41 g9) 40 f9) := xt_fr_A (by omega) (xt_fr_A (by omega) hfr)
      have hJ1 : ∀ p, xt_in (xt_gw c sd t) (xt_gh c r sd t) p → (xt_sA (xt_sA T1 41 g9) 40 f9).2.1 40 p = (xt_tJ c r sd pl pb t n (S.2.1 2) (S.2.1 3)) p := fun p hp => (hJ9 p hp).trans (xt_TL_J hTL p hp)
      generalize xt_sA (xt_sA T1 41 g9) 40 f9 = T at hTL1 hfr1 hJ1 ⊢
      obtain ⟨t0, t1, t2, t3, t4, t5, t6⟩ := xt_TL_n hTL1
      refine xt_aload_n C dX5_decoded_70 rfl ?_
      refine xt_get (f := 4) C xt_u5 rfl (by decide) (xt_cl0 _ _) (by decide) lkX5_33 rfl dX5_decoded_71 ?_
      refine xt_getN (f := 12) C xt_u4 rfl (by decide) (xt_cl33 _ _) (by decide) lkX5_270 rfl dX5_decoded_74 ?_
      refine xt_iload_n C dX5_decoded_77 rfl ?_
      refine xt_aload_n C dX5_decoded_78 rfl ?_
      refine xt_get (f := 4) C xt_u5 rfl (by decide) (xt_cl0 _ _) (by decide) lkX5_33 rfl dX5_decoded_79 ?_
      refine xt_getN (f := 0) C xt_u4 rfl (by decide) (xt_cl33 _ _) (by decide) lkX5_174 (xt_vI t0) dX5_decoded_82 ?_
      refine xt_isubN C dX5_decoded_85 (by omega) ?_
      refine xt_iload_n C dX5_decoded_86 rfl ?_
      refine xt_aload_n C dX5_decoded_87 rfl ?_
      refine xt_get (f := 4) C xt_u5 rfl (by decide) (xt_cl0 _ _) (by decide) lkX5_33 rfl dX5_decoded_88 ?_
      refine xt_getN (f := 1) C xt_u4 rfl (by decide) (xt_cl33 _ _) (by decide) lkX5_177 (xt_vI t1) dX5_decoded_91 ?_
      refine xt_isubN C dX5_decoded_94 (by omega) ?_
      refine xt_cS C ms_X5_placeOf lkX5_243 ct_place rfl (by decide) rfl (Nat.le_of_ble_eq_true rfl) dX5_decoded_95 ?_
      refine xt_cS C ms_X5_at lkX5_145 (ct_at (by decide) (xt_cl40 _) (by decide) (by omega) (hJ1 _ ⟨by omega, by omega⟩)) rfl (by decide) rfl (Nat.le_of_ble_eq_true rfl) dX5_decoded_98 ?_
      refine xt_ofM ?_
      exact xt_iret C dX5_decoded_101 ⟨by decide, by decide⟩ ⟨rfl, hfr1⟩
    · exact absurd ⟨⟨x, hx, rfl⟩, y, hy, rfl⟩ c29
  · exact absurd ⟨nI_pos' (by omega), nI_le hn9 (by omega)⟩ c7
set_option maxRecDepth 20000 in
set_option maxHeartbeats 2000000 in
theorem ct_decoded_bad1 {Q : Option Value → xt_St → Prop} (hst : l.stackTraces = false) {n x y : Int32} (hn : ¬ (nI 0 ≤ n ∧ n ≤ nI 9)) : xt_CtX E l yX5_decoded cX5_decoded 4 (some Jvm.ClassFile.FieldType.int) 7 131 1 6 [.ref (E.1 0), .int n, .int x, .int y] S Q (xt_Ex "java/lang/IllegalArgumentException" S) := by
  refine xt_bodyX (by decide +kernel) (xt_all rfl) (Nat.le_of_ble_eq_true rfl) (fun cx C hl9 hx9 => ?_)
  show xt_X E cx _ 0 0 0 [some (.ref (E.1 0)), some (.int n), some (.int x), some (.int y)] [] S
  refine xt_iload_n C dX5_decoded_0 rfl ?_
  refine xt_iconst (v := nI 0) C dX5_decoded_1 rfl ?_
  refine xt_bipush (v := nI 9) C dX5_decoded_2 (by decide) ?_
  refine xt_cS C ms_X5_isBetween lkX5_61 ct_between rfl (by decide) rfl (Nat.le_of_ble_eq_true rfl) dX5_decoded_4 ?_
  refine xt_if_neB (tgt := 20) C dX5_decoded_7 (by decide) (fun c7 => ?_) (fun c7 => ?_)
  · exact absurd c7 hn
  · exact xt_throwS (i := 12) C (by rw [hl9]; exact hst) hx9 xw_65 rfl dX5_decoded_10 dX5_decoded_13 dX5_decoded_14 dX5_decoded_16 dX5_decoded_19 rfl ⟨by decide, by decide, by decide, by decide⟩ (by decide) ⟨by decide, by decide⟩ ⟨rfl, rfl⟩
set_option maxRecDepth 20000 in
set_option maxHeartbeats 2000000 in
theorem ct_decoded_bad2 {Q : Option Value → xt_St → Prop} (hst : l.stackTraces = false) {c r sd pl pb : Nat} (hP : xt_Pic S 1 c r sd pl pb) {n x y : Int32} (hn : nI 0 ≤ n ∧ n ≤ nI 9) (hb : ¬ xt_pix c r x y) : xt_CtX E l yX5_decoded cX5_decoded 4 (some Jvm.ClassFile.FieldType.int) 7 131 1 6 [.ref (E.1 0), .int n, .int x, .int y] S Q (xt_Ex "java/lang/IndexOutOfBoundsException" S) := by
  refine xt_bodyX (by decide +kernel) (xt_all rfl) (Nat.le_of_ble_eq_true rfl) (fun cx C hl9 hx9 => ?_)
  show xt_X E cx _ 0 0 0 [some (.ref (E.1 0)), some (.int n), some (.int x), some (.int y)] [] S
  refine xt_iload_n C dX5_decoded_0 rfl ?_
  refine xt_iconst (v := nI 0) C dX5_decoded_1 rfl ?_
  refine xt_bipush (v := nI 9) C dX5_decoded_2 (by decide) ?_
  refine xt_cS C ms_X5_isBetween lkX5_61 ct_between rfl (by decide) rfl (Nat.le_of_ble_eq_true rfl) dX5_decoded_4 ?_
  refine xt_if_neB (tgt := 20) C dX5_decoded_7 (by decide) (fun c7 => ?_) (fun c7 => ?_)
  · refine xt_aload_n C dX5_decoded_20 rfl ?_
    refine xt_get (f := 0) C xt_u5 rfl (by decide) (xt_cl0 _ _) (by decide) lkX5_10 rfl dX5_decoded_21 ?_
    refine xt_iload_n C dX5_decoded_24 rfl ?_
    refine xt_iload_n C dX5_decoded_25 rfl ?_
    refine xt_cVN C mv_X1_has lkX5_131 (ct_has hP) rfl (by decide) (xt_cl1 _ _) rfl (by decide) rfl (Nat.le_of_ble_eq_true rfl) dX5_decoded_26 ?_
    refine xt_if_neB (tgt := 42) C dX5_decoded_29 (by decide) (fun c29 => ?_) (fun c29 => ?_)
    · exact absurd c29 hb
    · exact xt_throwS (i := 3) C (by rw [hl9]; exact hst) hx9 xw_134 rfl dX5_decoded_32 dX5_decoded_35 dX5_decoded_36 dX5_decoded_38 dX5_decoded_41 rfl ⟨by decide, by decide, by decide, by decide⟩ (by decide) ⟨by decide, by decide⟩ ⟨rfl, rfl⟩
  · exact absurd hn c7
set_option maxRecDepth 20000 in
set_option maxHeartbeats 2000000 in
theorem ct_worst_bound {QX : String → xt_St → Prop} {c r sd pl pb : Nat} (hP : xt_Pic S 1 c r sd pl pb) {t : Nat} (ht : t < xt_nt c r sd) (hk : ∀ j, j < 256 → S.2.1 3 j = nI 0 ∨ S.2.1 3 j = nI 1) {n : Nat} (hn9 : n ≤ 9) : xt_CtX E l yX5_worst cX5_worst 4 (some Jvm.ClassFile.FieldType.int) 7 152 1 6 [.ref (E.1 0), .int (nI n), .int (nI t), .int (nI 1)] S (xt_Ep (some (.int (xt_tU c r sd pl pb t n (S.2.1 3)))) (fun S9 => xt_fr S S9)) QX := by
  refine xt_bodyX (by decide +kernel) (xt_all rfl) (Nat.le_of_ble_eq_true rfl) (fun cx C hl9 hx9 => ?_)
  show xt_X E cx _ 0 0 0 [some (.ref (E.1 0)), some (.int (nI n)), some (.int (nI t)), some (.int (nI 1))] [] S
  have hP9 := hP
  obtain ⟨hc, hr, hs, hv, hb, b1, b2, b3, b4, b5, b6, b7⟩ := hP
  have hn := xt_nt_b ⟨b1, b2⟩ ⟨b3, b4⟩ b5
  have hT := xt_tile_b ⟨b1, b2⟩ ⟨b3, b4⟩ b5 ht
  refine xt_iload_n C dX5_worst_0 rfl ?_
  refine xt_iconst (v := nI 0) C dX5_worst_1 rfl ?_
  refine xt_bipush (v := nI 9) C dX5_worst_2 (by decide) ?_
  refine xt_cS C ms_X5_isBetween lkX5_61 ct_between rfl (by decide) rfl (Nat.le_of_ble_eq_true rfl) dX5_worst_4 ?_
  refine xt_if_neB (tgt := 20) C dX5_worst_7 (by decide) (fun c7 => ?_) (fun c7 => ?_)
  · refine xt_aload_n C dX5_worst_20 rfl ?_
    refine xt_get (f := 0) C xt_u5 rfl (by decide) (xt_cl0 _ _) (by decide) lkX5_10 rfl dX5_worst_21 ?_
    refine xt_iload_n C dX5_worst_24 rfl ?_
    refine xt_cVN C mv_X1_hasTile lkX5_164 (ct_hasTile hP9) rfl (by decide) (xt_cl1 _ _) rfl (by decide) rfl (Nat.le_of_ble_eq_true rfl) dX5_worst_25 ?_
    refine xt_if_neB (tgt := 41) C dX5_worst_28 (by decide) (fun c28 => ?_) (fun c28 => ?_)
    · refine xt_aload_n C dX5_worst_41 rfl ?_
      refine xt_get (f := 4) C xt_u5 rfl (by decide) (xt_cl0 _ _) (by decide) lkX5_33 rfl dX5_worst_42 ?_
      refine xt_aload_n C dX5_worst_45 rfl ?_
      refine xt_get (f := 0) C xt_u5 rfl (by decide) (xt_cl0 _ _) (by decide) lkX5_10 rfl dX5_worst_46 ?_
      refine xt_iload_n C dX5_worst_49 rfl ?_
      refine xt_cVNpn C mv_X4_load lkX5_170 (ct_load (by exact hP9) ht hk) rfl (by decide) (xt_cl33 _ _) rfl (by decide) rfl (Nat.le_of_ble_eq_true rfl) dX5_worst_50 (fun S9 hq9 => ?_)
      obtain ⟨hfr, hTL0⟩ := hq9
      have hTL : xt_TL S9 c r sd pl pb t (S.2.1 2) (S.2.1 3) := hTL0
      rename xt_St => T1
      refine xt_iload_n C dX5_worst_53 rfl ?_
      refine xt_if_eqN (tgt := 68) C dX5_worst_54 (by decide) (by omega) (fun c54 => ?_) (fun c54 => ?_)
      · exact absurd c54 (by decide)
      · refine xt_aload_n C dX5_worst_57 rfl ?_
        refine xt_get (f := 4) C xt_u5 rfl (by decide) (xt_cl0 _ _) (by decide) lkX5_33 rfl dX5_worst_58 ?_
        refine xt_iload_n C dX5_worst_61 rfl ?_
        refine xt_cVNp C mv_X4_greatestDoubt lkX5_273 (ct_doubt (by exact xt_TL_n hTL) (by exact xt_TL_m hTL) hn9) rfl (by decide) (xt_cl33 _ _) rfl (by decide) rfl (Nat.le_of_ble_eq_true rfl) dX5_worst_62 (fun S9 hq9 => ?_)
        obtain ⟨g9, f9, rfl⟩ := hq9
        rw [← xt_tU]
        refine xt_goto (tgt := 76) C dX5_worst_65 (by decide) ?_
        refine xt_ofM ?_
        exact xt_iret C dX5_worst_76 ⟨by decide, by decide⟩ ⟨rfl, xt_fr_A (by omega) (xt_fr_A (by omega) hfr)⟩
    · exact absurd ⟨t, ht, rfl⟩ c28
  · exact absurd ⟨nI_pos' (by omega), nI_le hn9 (by omega)⟩ c7
set_option maxRecDepth 20000 in
set_option maxHeartbeats 2000000 in
theorem ct_worst_diff {QX : String → xt_St → Prop} {c r sd pl pb : Nat} (hP : xt_Pic S 1 c r sd pl pb) {t : Nat} (ht : t < xt_nt c r sd) (hk : ∀ j, j < 256 → S.2.1 3 j = nI 0 ∨ S.2.1 3 j = nI 1) {n : Nat} (hn9 : n ≤ 9) : xt_CtX E l yX5_worst cX5_worst 4 (some Jvm.ClassFile.FieldType.int) 7 152 1 6 [.ref (E.1 0), .int (nI n), .int (nI t), .int (nI 0)] S (xt_Ep (some (.int (xt_tW c r sd pl pb t n (S.2.1 2) (S.2.1 3)))) (fun S9 => xt_fr S S9)) QX := by
  refine xt_bodyX (by decide +kernel) (xt_all rfl) (Nat.le_of_ble_eq_true rfl) (fun cx C hl9 hx9 => ?_)
  show xt_X E cx _ 0 0 0 [some (.ref (E.1 0)), some (.int (nI n)), some (.int (nI t)), some (.int (nI 0))] [] S
  have hP9 := hP
  obtain ⟨hc, hr, hs, hv, hb, b1, b2, b3, b4, b5, b6, b7⟩ := hP
  have hn := xt_nt_b ⟨b1, b2⟩ ⟨b3, b4⟩ b5
  have hT := xt_tile_b ⟨b1, b2⟩ ⟨b3, b4⟩ b5 ht
  refine xt_iload_n C dX5_worst_0 rfl ?_
  refine xt_iconst (v := nI 0) C dX5_worst_1 rfl ?_
  refine xt_bipush (v := nI 9) C dX5_worst_2 (by decide) ?_
  refine xt_cS C ms_X5_isBetween lkX5_61 ct_between rfl (by decide) rfl (Nat.le_of_ble_eq_true rfl) dX5_worst_4 ?_
  refine xt_if_neB (tgt := 20) C dX5_worst_7 (by decide) (fun c7 => ?_) (fun c7 => ?_)
  · refine xt_aload_n C dX5_worst_20 rfl ?_
    refine xt_get (f := 0) C xt_u5 rfl (by decide) (xt_cl0 _ _) (by decide) lkX5_10 rfl dX5_worst_21 ?_
    refine xt_iload_n C dX5_worst_24 rfl ?_
    refine xt_cVN C mv_X1_hasTile lkX5_164 (ct_hasTile hP9) rfl (by decide) (xt_cl1 _ _) rfl (by decide) rfl (Nat.le_of_ble_eq_true rfl) dX5_worst_25 ?_
    refine xt_if_neB (tgt := 41) C dX5_worst_28 (by decide) (fun c28 => ?_) (fun c28 => ?_)
    · refine xt_aload_n C dX5_worst_41 rfl ?_
      refine xt_get (f := 4) C xt_u5 rfl (by decide) (xt_cl0 _ _) (by decide) lkX5_33 rfl dX5_worst_42 ?_
      refine xt_aload_n C dX5_worst_45 rfl ?_
      refine xt_get (f := 0) C xt_u5 rfl (by decide) (xt_cl0 _ _) (by decide) lkX5_10 rfl dX5_worst_46 ?_
      refine xt_iload_n C dX5_worst_49 rfl ?_
      refine xt_cVNpn C mv_X4_load lkX5_170 (ct_load (by exact hP9) ht hk) rfl (by decide) (xt_cl33 _ _) rfl (by decide) rfl (Nat.le_of_ble_eq_true rfl) dX5_worst_50 (fun S9 hq9 => ?_)
      obtain ⟨hfr, hTL0⟩ := hq9
      have hTL : xt_TL S9 c r sd pl pb t (S.2.1 2) (S.2.1 3) := hTL0
      rename xt_St => T1
      refine xt_iload_n C dX5_worst_53 rfl ?_
      refine xt_if_eqN (tgt := 68) C dX5_worst_54 (by decide) (by omega) (fun c54 => ?_) (fun c54 => ?_)
      · refine xt_aload_n C dX5_worst_68 rfl ?_
        refine xt_get (f := 4) C xt_u5 rfl (by decide) (xt_cl0 _ _) (by decide) lkX5_33 rfl dX5_worst_69 ?_
        refine xt_iload_n C dX5_worst_72 rfl ?_
        refine xt_cVNp C mv_X4_greatestDifference lkX5_276 (ct_greatest (by exact xt_TL_n hTL) (by exact xt_TL_m hTL) hn9) rfl (by decide) (xt_cl33 _ _) rfl (by decide) rfl (Nat.le_of_ble_eq_true rfl) dX5_worst_73 (fun S9 hq9 => ?_)
        obtain ⟨g9, f9, rfl⟩ := hq9
        rw [xt_TL_W hTL]
        refine xt_ofM ?_
        exact xt_iret C dX5_worst_76 ⟨by decide, by decide⟩ ⟨rfl, xt_fr_A (by omega) (xt_fr_A (by omega) hfr)⟩
      · exact absurd c54 (by decide)
    · exact absurd ⟨t, ht, rfl⟩ c28
  · exact absurd ⟨nI_pos' (by omega), nI_le hn9 (by omega)⟩ c7
set_option maxRecDepth 20000 in
set_option maxHeartbeats 2000000 in
theorem ct_worst_bad1 {Q : Option Value → xt_St → Prop} (hst : l.stackTraces = false) {n a m : Int32} (hn : ¬ (nI 0 ≤ n ∧ n ≤ nI 9)) : xt_CtX E l yX5_worst cX5_worst 4 (some Jvm.ClassFile.FieldType.int) 7 152 1 6 [.ref (E.1 0), .int n, .int a, .int m] S Q (xt_Ex "java/lang/IllegalArgumentException" S) := by
  refine xt_bodyX (by decide +kernel) (xt_all rfl) (Nat.le_of_ble_eq_true rfl) (fun cx C hl9 hx9 => ?_)
  show xt_X E cx _ 0 0 0 [some (.ref (E.1 0)), some (.int n), some (.int a), some (.int m)] [] S
  refine xt_iload_n C dX5_worst_0 rfl ?_
  refine xt_iconst (v := nI 0) C dX5_worst_1 rfl ?_
  refine xt_bipush (v := nI 9) C dX5_worst_2 (by decide) ?_
  refine xt_cS C ms_X5_isBetween lkX5_61 ct_between rfl (by decide) rfl (Nat.le_of_ble_eq_true rfl) dX5_worst_4 ?_
  refine xt_if_neB (tgt := 20) C dX5_worst_7 (by decide) (fun c7 => ?_) (fun c7 => ?_)
  · exact absurd c7 hn
  · exact xt_throwS (i := 12) C (by rw [hl9]; exact hst) hx9 xw_65 rfl dX5_worst_10 dX5_worst_13 dX5_worst_14 dX5_worst_16 dX5_worst_19 rfl ⟨by decide, by decide, by decide, by decide⟩ (by decide) ⟨by decide, by decide⟩ ⟨rfl, rfl⟩
set_option maxRecDepth 20000 in
set_option maxHeartbeats 2000000 in
theorem ct_worst_bad2 {Q : Option Value → xt_St → Prop} (hst : l.stackTraces = false) {c r sd pl pb : Nat} (hP : xt_Pic S 1 c r sd pl pb) {n a m : Int32} (hn : nI 0 ≤ n ∧ n ≤ nI 9) (hb : ¬ ∃ j, j < xt_nt c r sd ∧ a = nI j) : xt_CtX E l yX5_worst cX5_worst 4 (some Jvm.ClassFile.FieldType.int) 7 152 1 6 [.ref (E.1 0), .int n, .int a, .int m] S Q (xt_Ex "java/lang/IndexOutOfBoundsException" S) := by
  refine xt_bodyX (by decide +kernel) (xt_all rfl) (Nat.le_of_ble_eq_true rfl) (fun cx C hl9 hx9 => ?_)
  show xt_X E cx _ 0 0 0 [some (.ref (E.1 0)), some (.int n), some (.int a), some (.int m)] [] S
  refine xt_iload_n C dX5_worst_0 rfl ?_
  refine xt_iconst (v := nI 0) C dX5_worst_1 rfl ?_
  refine xt_bipush (v := nI 9) C dX5_worst_2 (by decide) ?_
  refine xt_cS C ms_X5_isBetween lkX5_61 ct_between rfl (by decide) rfl (Nat.le_of_ble_eq_true rfl) dX5_worst_4 ?_
  refine xt_if_neB (tgt := 20) C dX5_worst_7 (by decide) (fun c7 => ?_) (fun c7 => ?_)
  · refine xt_aload_n C dX5_worst_20 rfl ?_
    refine xt_get (f := 0) C xt_u5 rfl (by decide) (xt_cl0 _ _) (by decide) lkX5_10 rfl dX5_worst_21 ?_
    refine xt_iload_n C dX5_worst_24 rfl ?_
    refine xt_cVN C mv_X1_hasTile lkX5_164 (ct_hasTile hP) rfl (by decide) (xt_cl1 _ _) rfl (by decide) rfl (Nat.le_of_ble_eq_true rfl) dX5_worst_25 ?_
    refine xt_if_neB (tgt := 41) C dX5_worst_28 (by decide) (fun c28 => ?_) (fun c28 => ?_)
    · exact absurd c28 hb
    · exact xt_throwS (i := 7) C (by rw [hl9]; exact hst) hx9 xw_134 rfl dX5_worst_31 dX5_worst_34 dX5_worst_35 dX5_worst_37 dX5_worst_40 rfl ⟨by decide, by decide, by decide, by decide⟩ (by decide) ⟨by decide, by decide⟩ ⟨rfl, rfl⟩
  · exact absurd hn c7
end XC30
