/-! THE MODEL: bits, roots, decoded, worst, number, planned and their like -/
section XM11
variable {E : xt_Ev} {l : Launch} {S : xt_St}
def xt_su (a : Nat → Int32) (n : Nat) : Int32 := xt_it (fun x s => s + a x) n 0
theorem xt_su_s {a : Nat → Int32} {n : Nat} {s : Int32} : xt_it (fun x s => s + a x) n s = s + xt_su a n := by
  induction n with
  | zero => exact (Int32.add_zero s).symm
  | succ n ih =>
    show xt_it (fun x s => s + a x) n s + a n = s + (xt_su a n + a n)
    rw [ih, Int32.add_assoc]
theorem xt_su_add {a b : Nat → Int32} {n : Nat} : xt_su (fun x => a x + b x) n = xt_su a n + xt_su b n := by
  induction n with
  | zero => rfl
  | succ n ih =>
    show xt_su (fun x => a x + b x) n + (a n + b n) = (xt_su a n + a n) + (xt_su b n + b n)
    rw [ih, Int32.add_assoc, Int32.add_assoc, ← Int32.add_assoc (xt_su b n), Int32.add_comm (xt_su b n) (a n), Int32.add_assoc]
theorem xt_su_0 {n : Nat} : xt_su (fun _ => 0) n = 0 := by
  induction n with
  | zero => rfl
  | succ n ih =>
    show xt_su (fun _ => 0) n + 0 = 0
    rw [ih]; rfl
theorem xt_su_c {a b : Nat → Int32} {n : Nat} (h : ∀ x, x < n → a x = b x) : xt_su a n = xt_su b n := xt_it_c (fun x s hx => by rw [h x hx])
theorem xt_su_w {a : Nat → Nat → Int32} {n m : Nat} : xt_su (fun l => xt_su (fun x => a l x) n) m = xt_su (fun x => xt_su (fun l => a l x) m) n := by
  induction m with
  | zero => exact xt_su_0.symm
  | succ m ih =>
    show xt_su (fun l => xt_su (fun x => a l x) n) m + xt_su (fun x => a m x) n = xt_su (fun x => xt_su (fun l => a l x) m + a m x) n
    rw [ih, xt_su_add]
theorem xt_su_1 {q n : Nat} {u : Int32} : xt_su (fun l => if q = l then u else 0) n = if q < n then u else 0 := by
  induction n with
  | zero => rfl
  | succ n ih =>
    show xt_su (fun l => if q = l then u else 0) n + (if q = n then u else 0) = _
    rw [ih]
    by_cases e : q = n
    · rw [if_neg (by omega), if_pos e, if_pos (by omega), Int32.zero_add]
    · rw [if_neg e, Int32.add_zero]
      by_cases z : q < n
      · rw [if_pos z, if_pos (by omega)]
      · rw [if_neg z, if_neg (by omega)]
theorem xt_S2_m {g : Nat → Nat → Int32} {w h : Nat} : xt_S2 g w h = xt_su (fun y => xt_su (fun x => g x y) w) h := by
  unfold xt_S2
  exact xt_it_c (fun y s _ => xt_su_s)
theorem xt_bits_m {a ly : Int32} {m bo : Nat} : xt_bits a ly m bo = xt_su (fun p => if ly = -1 ∨ nI (xt_lay m bo p) = ly then (if a >>> (nI p &&& 31) = nI 1 then nI 2 else nI 1) else 0) 9 := by
  unfold xt_bits
  refine xt_it_c (fun p s _ => ?_)
  dsimp only
  by_cases z : ly = -1 ∨ nI (xt_lay m bo p) = ly
  · rw [if_pos z, if_pos z]
  · rw [if_neg z, if_neg z, Int32.add_zero]
theorem xt_lay_8 {m bo p : Nat} : xt_lay m bo p ≤ 8 := by unfold xt_lay; split <;> omega
theorem xt_bits_all {a : Int32} {m bo : Nat} : xt_su (fun l => xt_bits a (nI l) m bo) 9 = xt_bits a (-1) m bo := by
  rw [xt_bits_m]
  have e : xt_su (fun l => xt_bits a (nI l) m bo) 9 = xt_su (fun l => xt_su (fun p => if xt_lay m bo p = l then (if a >>> (nI p &&& 31) = nI 1 then nI 2 else nI 1) else 0) 9) 9 := by
    refine xt_su_c (fun l hl => ?_)
    rw [xt_bits_m]
    refine xt_su_c (fun p hp => ?_)
    have h1 : ¬ nI l = -1 := by
      have h9 := co_dec (N := 9) (P := fun ly => ¬ nI ly = -1) (by decide +kernel) hl
      exact h9
    have h2 := xt_lay_8 (m := m) (bo := bo) (p := p)
    by_cases z : xt_lay m bo p = l
    · rw [if_pos z, if_pos (Or.inr (by rw [z]))]
    · rw [if_neg z, if_neg (fun q => q.elim h1 (fun q => z ((nI_eq (by omega) (by omega)).mp q)))]
  rw [e, xt_su_w]
  refine xt_su_c (fun p hp => ?_)
  rw [xt_su_1, if_pos (Nat.lt_succ_of_le xt_lay_8), if_pos (Or.inl rfl)]
theorem xt_tB_all {c r sd pl pb t : Nat} {v k : Nat → Int32} : xt_su (fun l => xt_tB c r sd pl pb t (nI l) v k) 9 = xt_tB c r sd pl pb t (-1) v k := by
  unfold xt_tB
  rw [xt_S2_m]
  rw [xt_su_c (b := fun l => xt_su (fun y => xt_su (fun x => xt_bits (xt_abs (xt_tC c r sd pl t v (8 * y + x))) (nI l) (xt_tM c r sd pl t k (8 * y + x)) pb) (xt_gw c sd t)) (xt_gh c r sd t)) (fun l _ => xt_S2_m), xt_su_w]
  refine xt_su_c (fun y _ => ?_)
  rw [xt_su_w]
  exact xt_su_c (fun x _ => xt_bits_all)
theorem xt_in18 {ly : Nat} (h : ly ≤ 8) : (-1 : Int32) ≤ nI ly ∧ nI ly ≤ nI 8 := ⟨Int32.le_of_lt (Int32.lt_of_lt_of_le (by decide) (nI_pos' (by omega))), nI_le h (by decide)⟩
def xt_numF (v k : Nat → Int32) (c r sd lv bo : Nat) (u n : Int32) : Nat → Int32
  | 0 => nI c
  | 1 => nI r
  | 2 => nI sd
  | 3 => nI lv
  | 4 => nI bo
  | 5 => nI (xt_nt c r sd)
  | 6 => xt_it (fun i s => s + k i) (c * r) 0
  | 7 => xt_it (fun i s => s + v i) (c * r) 0
  | 8 => u
  | _ => n
theorem xt_num_F {c r sd lv bo j : Nat} : xt_num S c r sd lv bo j = xt_numF (S.2.1 2) (S.2.1 3) c r sd lv bo (S.1 7 2) (S.1 46 1) j := by
  match j with
  | 0 => rfl
  | 1 => rfl
  | 2 => rfl
  | 3 => rfl
  | 4 => rfl
  | 5 => rfl
  | 6 => rfl
  | 7 => rfl
  | 8 => rfl
  | n + 9 => rfl
set_option maxRecDepth 20000 in
set_option maxHeartbeats 2000000 in
theorem ct_mbits {c r sd lv bo : Nat} (hM : xt_Mp S c r sd lv bo) {t : Nat} (ht : t < xt_nt c r sd) {v k : Nat → Int32} (hvv : ∀ j, j < 256 → xt_mV S j = v j) (hkk : ∀ j, j < 256 → xt_mK S j = k j) (hvr : ∀ j, j < 256 → ∃ m, m ≤ 255 ∧ v j = nI m) (hk : ∀ j, j < 256 → k j = nI 0 ∨ k j = nI 1) {ly : Nat} (hly : ly ≤ 8) : xt_Ct E l yX6_bits cX6_bits 5 (some Jvm.ClassFile.FieldType.int) 4 84 0 0 [.ref (E.1 49), .int (nI t), .int (nI ly)] S (xt_Ep (some (.int (xt_tB c r sd lv bo t (nI ly) v k))) (xt_mr S 0)) := by
  refine xt_body (by decide +kernel) (xt_all rfl) (Nat.le_of_ble_eq_true rfl) (fun cx C hl9 => ?_)
  show xt_X E cx _ 0 0 0 [some (.ref (E.1 49)), some (.int (nI t)), some (.int (nI ly)), none, none] [] S
  have hM9 := hM
  obtain ⟨hc, hr, hs, hv, hb, b1, b2, b3, b4, b5, b6, b7⟩ := hM
  have hn := xt_nt_b ⟨b1, b2⟩ ⟨b3, b4⟩ b5
  have hT := xt_tile_b ⟨b1, b2⟩ ⟨b3, b4⟩ b5 ht
  have hdl : (xt_tD c r sd lv t) ≤ 3 := xt_dep_le.2
  have hk9 : ∀ j, j < 256 → xt_mK S j = nI 0 ∨ xt_mK S j = nI 1 := fun j hj => by rw [hkk j hj]; exact hk j hj
  refine xt_aload_n C dX6_bits_0 rfl ?_
  refine xt_iconst (v := nI 0) C dX6_bits_1 rfl ?_
  refine xt_put (f := 0) C xt_u6 rfl (by decide) (xt_cl49 _ _) (by decide) tyX6 tyX6_ok nmX6 lkX6_74 rfl (tyX6_ok 0 (by decide)) rfl rfl (Nat.le_of_ble_eq_true rfl) rfl dX6_bits_2 ?_
  refine xt_aload_n C dX6_bits_5 rfl ?_
  refine xt_iload_n C dX6_bits_6 rfl ?_
  refine xt_cV C mv_X6_isTile lkX6_165 (ct_isTile (by exact hM9)) rfl (by decide) (xt_cl49 _ _) rfl (by decide) rfl (Nat.le_of_ble_eq_true rfl) dX6_bits_7 ?_
  refine xt_if_neB (tgt := 19) C dX6_bits_10 (by decide) (fun c10 => ?_) (fun c10 => ?_)
  · refine xt_iload_n C dX6_bits_19 rfl ?_
    refine xt_iconst (v := -1) C dX6_bits_20 rfl ?_
    refine xt_bipush (v := nI 8) C dX6_bits_21 (by decide) ?_
    refine xt_cS C ms_X6_in lkX6_81 ct_in rfl (by decide) rfl (Nat.le_of_ble_eq_true rfl) dX6_bits_23 ?_
    refine xt_if_neB (tgt := 35) C dX6_bits_26 (by decide) (fun c26 => ?_) (fun c26 => ?_)
    · refine xt_aload_n C dX6_bits_35 rfl ?_
      refine xt_iload_n C dX6_bits_36 rfl ?_
      refine xt_cVpn C mv_X6_looks lkX6_169 (ct_looks (by exact hM9) ht (by exact hk9)) rfl (by decide) (xt_cl49 _ _) rfl (by decide) rfl (Nat.le_of_ble_eq_true rfl) dX6_bits_37 (fun S9 hq9 => ?_)
      obtain ⟨hfr, hL0⟩ := hq9
      have hL := xt_ML_c ⟨b1, b2⟩ ⟨b3, b4⟩ b5 ht hvv hkk hL0
      rename xt_St => T1
      have hMt := hL.1
      obtain ⟨m1, m2, m3, m4, g1, g2, g3, g4, g5, g6, g7⟩ := id hMt
      refine xt_iload_n C dX6_bits_40 rfl ?_
      refine xt_if_ltN (tgt := 50) C dX6_bits_41 (by decide) (by omega) ?_
      refine xt_aload_n C dX6_bits_44 rfl ?_
      refine xt_iload_n C dX6_bits_45 rfl ?_
      refine xt_cV C mv_X6_bitsOf lkX6_190 (ct_bitsOf (by exact xt_mfr_Mp hfr hM9) ht hL (by omega)) rfl (by decide) (xt_cl49 _ _) rfl (by decide) rfl (Nat.le_of_ble_eq_true rfl) dX6_bits_46 ?_
      exact xt_iret C dX6_bits_49 ⟨by decide, by decide⟩ ⟨rfl, xt_mr_0 hfr⟩
    · exact absurd (xt_in18 hly) c26
  · exact absurd ⟨t, ht, rfl⟩ c10
set_option maxRecDepth 20000 in
set_option maxHeartbeats 2000000 in
theorem ct_mbits_all {c r sd lv bo : Nat} (hM : xt_Mp S c r sd lv bo) {t : Nat} (ht : t < xt_nt c r sd) {v k : Nat → Int32} (hvv : ∀ j, j < 256 → xt_mV S j = v j) (hkk : ∀ j, j < 256 → xt_mK S j = k j) (hvr : ∀ j, j < 256 → ∃ m, m ≤ 255 ∧ v j = nI m) (hk : ∀ j, j < 256 → k j = nI 0 ∨ k j = nI 1) : xt_Ct E l yX6_bits cX6_bits 5 (some Jvm.ClassFile.FieldType.int) 4 84 0 0 [.ref (E.1 49), .int (nI t), .int (-1)] S (xt_Ep (some (.int (xt_tB c r sd lv bo t (-1) v k))) (xt_mr S 0)) := by
  refine xt_body (by decide +kernel) (xt_all rfl) (Nat.le_of_ble_eq_true rfl) (fun cx C hl9 => ?_)
  show xt_X E cx _ 0 0 0 [some (.ref (E.1 49)), some (.int (nI t)), some (.int (-1)), none, none] [] S
  have hM9 := hM
  obtain ⟨hc, hr, hs, hv, hb, b1, b2, b3, b4, b5, b6, b7⟩ := hM
  have hn := xt_nt_b ⟨b1, b2⟩ ⟨b3, b4⟩ b5
  have hT := xt_tile_b ⟨b1, b2⟩ ⟨b3, b4⟩ b5 ht
  have hdl : (xt_tD c r sd lv t) ≤ 3 := xt_dep_le.2
  have hk9 : ∀ j, j < 256 → xt_mK S j = nI 0 ∨ xt_mK S j = nI 1 := fun j hj => by rw [hkk j hj]; exact hk j hj
  refine xt_aload_n C dX6_bits_0 rfl ?_
  refine xt_iconst (v := nI 0) C dX6_bits_1 rfl ?_
  refine xt_put (f := 0) C xt_u6 rfl (by decide) (xt_cl49 _ _) (by decide) tyX6 tyX6_ok nmX6 lkX6_74 rfl (tyX6_ok 0 (by decide)) rfl rfl (Nat.le_of_ble_eq_true rfl) rfl dX6_bits_2 ?_
  refine xt_aload_n C dX6_bits_5 rfl ?_
  refine xt_iload_n C dX6_bits_6 rfl ?_
  refine xt_cV C mv_X6_isTile lkX6_165 (ct_isTile (by exact hM9)) rfl (by decide) (xt_cl49 _ _) rfl (by decide) rfl (Nat.le_of_ble_eq_true rfl) dX6_bits_7 ?_
  refine xt_if_neB (tgt := 19) C dX6_bits_10 (by decide) (fun c10 => ?_) (fun c10 => ?_)
  · refine xt_iload_n C dX6_bits_19 rfl ?_
    refine xt_iconst (v := -1) C dX6_bits_20 rfl ?_
    refine xt_bipush (v := nI 8) C dX6_bits_21 (by decide) ?_
    refine xt_cS C ms_X6_in lkX6_81 ct_in rfl (by decide) rfl (Nat.le_of_ble_eq_true rfl) dX6_bits_23 ?_
    refine xt_if_neB (tgt := 35) C dX6_bits_26 (by decide) (fun c26 => ?_) (fun c26 => ?_)
    · refine xt_aload_n C dX6_bits_35 rfl ?_
      refine xt_iload_n C dX6_bits_36 rfl ?_
      refine xt_cVpn C mv_X6_looks lkX6_169 (ct_looks (by exact hM9) ht (by exact hk9)) rfl (by decide) (xt_cl49 _ _) rfl (by decide) rfl (Nat.le_of_ble_eq_true rfl) dX6_bits_37 (fun S9 hq9 => ?_)
      obtain ⟨hfr, hL0⟩ := hq9
      have hL := xt_ML_c ⟨b1, b2⟩ ⟨b3, b4⟩ b5 ht hvv hkk hL0
      rename xt_St => T1
      have hMt := hL.1
      obtain ⟨m1, m2, m3, m4, g1, g2, g3, g4, g5, g6, g7⟩ := id hMt
      refine xt_iload_n C dX6_bits_40 rfl ?_
      refine xt_if_lt (tgt := 50) C dX6_bits_41 (by decide) (fun c41 => ?_) (fun c41 => ?_)
      · refine xt_iconst (v := nI 0) C dX6_bits_50 rfl ?_
        refine xt_istore_n (lo' := [_, _, _, _, _]) C dX6_bits_51 (Nat.le_of_ble_eq_true rfl) rfl rfl ?_
        refine xt_iconst (v := nI 0) C dX6_bits_52 rfl ?_
        refine xt_istore (lo' := [_, _, _, _, _]) C dX6_bits_53 (Nat.le_of_ble_eq_true rfl) rfl rfl ?_
        have loop : ∀ (d j : Nat), j ≤ 9 →  9 + 1 ≤ j + d → xt_X E cx (xt_ZM E cx 0 0 (xt_Ep (some (.int (xt_tB c r sd lv bo t (-1) v k))) (xt_mr S 0))) 0 0 55 [some (.ref (E.1 49)), some (.int (nI t)), some (.int (-1)), some (.int (xt_su (fun l => xt_tB c r sd lv bo t (nI l) v k) j)), some (.int (nI j))] [] T1 := by
          intro d
          induction d with
          | zero => intro j  h0j  h1j; exact absurd h1j (by omega)
          | succ d ih =>
            intro j  h0j  h1j
            refine xt_iload C dX6_bits_55 rfl ?_
            refine xt_bipush (v := nI 9) C dX6_bits_57 (by decide) ?_
            refine xt_icmp_geN (tgt := 77) C dX6_bits_59 (by decide) (by omega) (by omega) (fun c59 => ?_) (fun c59 => ?_)
            · refine xt_iload_n C dX6_bits_77 rfl ?_
              exact xt_iret C dX6_bits_78 ⟨by decide, by decide⟩ ⟨by rw [show j = 9 by omega, xt_tB_all], xt_mr_0 hfr⟩
            · refine xt_iload_n C dX6_bits_62 rfl ?_
              refine xt_aload_n C dX6_bits_63 rfl ?_
              refine xt_iload C dX6_bits_64 rfl ?_
              refine xt_cV C mv_X6_bitsOf lkX6_190 (ct_bitsOf (by exact xt_mfr_Mp hfr hM9) ht hL (by omega)) rfl (by decide) (xt_cl49 _ _) rfl (by decide) rfl (Nat.le_of_ble_eq_true rfl) dX6_bits_66 ?_
              refine xt_iadd C dX6_bits_69 ?_
              refine xt_istore_n (lo' := [_, _, _, _, _]) C dX6_bits_70 (Nat.le_of_ble_eq_true rfl) rfl rfl ?_
              refine xt_iincN (z := 1) (lo' := [_, _, _, _, _]) C dX6_bits_71 rfl rfl rfl ?_
              refine xt_goto (tgt := 55) C dX6_bits_74 (by decide) ?_
              exact xt_fg (by repeat' constructor) (ih (j + 1) (by omega) (by omega))
        exact xt_fg (by repeat' constructor) (loop (9 + 1) 0 (by omega) (by omega))
      · exact absurd (by decide) c41
    · exact absurd ⟨by decide, by decide⟩ c26
  · exact absurd ⟨t, ht, rfl⟩ c10
set_option maxRecDepth 20000 in
set_option maxHeartbeats 2000000 in
theorem ct_mbits_t {c r sd lv bo : Nat} (hM : xt_Mp S c r sd lv bo) {a q : Int32} (hbad : ¬ ∃ j, j < xt_nt c r sd ∧ a = nI j) : xt_Ct E l yX6_bits cX6_bits 5 (some Jvm.ClassFile.FieldType.int) 4 84 0 0 [.ref (E.1 49), .int a, .int q] S (xt_Ep (some (.int (nI 0))) (xt_mr S 1)) := by
  refine xt_body (by decide +kernel) (xt_all rfl) (Nat.le_of_ble_eq_true rfl) (fun cx C hl9 => ?_)
  show xt_X E cx _ 0 0 0 [some (.ref (E.1 49)), some (.int a), some (.int q), none, none] [] S
  have hM9 := hM
  obtain ⟨hc, hr, hs, hv, hb, b1, b2, b3, b4, b5, b6, b7⟩ := hM
  refine xt_aload_n C dX6_bits_0 rfl ?_
  refine xt_iconst (v := nI 0) C dX6_bits_1 rfl ?_
  refine xt_put (f := 0) C xt_u6 rfl (by decide) (xt_cl49 _ _) (by decide) tyX6 tyX6_ok nmX6 lkX6_74 rfl (tyX6_ok 0 (by decide)) rfl rfl (Nat.le_of_ble_eq_true rfl) rfl dX6_bits_2 ?_
  refine xt_aload_n C dX6_bits_5 rfl ?_
  refine xt_iload_n C dX6_bits_6 rfl ?_
  refine xt_cV C mv_X6_isTile lkX6_165 (ct_isTile (by exact hM9)) rfl (by decide) (xt_cl49 _ _) rfl (by decide) rfl (Nat.le_of_ble_eq_true rfl) dX6_bits_7 ?_
  refine xt_if_neB (tgt := 19) C dX6_bits_10 (by decide) (fun c10 => ?_) (fun c10 => ?_)
  · exact absurd c10 hbad
  · refine xt_aload_n C dX6_bits_13 rfl ?_
    refine xt_iconst (v := nI 1) C dX6_bits_14 rfl ?_
    refine xt_cV C mv_X6_raises lkX6_142 ct_mraises rfl (by decide) (xt_cl49 _ _) rfl (by decide) rfl (Nat.le_of_ble_eq_true rfl) dX6_bits_15 ?_
    exact xt_iret C dX6_bits_18 ⟨by decide, by decide⟩ ⟨rfl, xt_mr_x xt_mfr_rf⟩
set_option maxRecDepth 20000 in
set_option maxHeartbeats 2000000 in
theorem ct_mbits_q {c r sd lv bo : Nat} (hM : xt_Mp S c r sd lv bo) {a q : Int32} (hbad : ∃ j, j < xt_nt c r sd ∧ a = nI j) (hq : ¬ (-1 ≤ q ∧ q ≤ nI 8)) : xt_Ct E l yX6_bits cX6_bits 5 (some Jvm.ClassFile.FieldType.int) 4 84 0 0 [.ref (E.1 49), .int a, .int q] S (xt_Ep (some (.int (nI 0))) (xt_mr S 2)) := by
  refine xt_body (by decide +kernel) (xt_all rfl) (Nat.le_of_ble_eq_true rfl) (fun cx C hl9 => ?_)
  show xt_X E cx _ 0 0 0 [some (.ref (E.1 49)), some (.int a), some (.int q), none, none] [] S
  have hM9 := hM
  obtain ⟨hc, hr, hs, hv, hb, b1, b2, b3, b4, b5, b6, b7⟩ := hM
  refine xt_aload_n C dX6_bits_0 rfl ?_
  refine xt_iconst (v := nI 0) C dX6_bits_1 rfl ?_
  refine xt_put (f := 0) C xt_u6 rfl (by decide) (xt_cl49 _ _) (by decide) tyX6 tyX6_ok nmX6 lkX6_74 rfl (tyX6_ok 0 (by decide)) rfl rfl (Nat.le_of_ble_eq_true rfl) rfl dX6_bits_2 ?_
  refine xt_aload_n C dX6_bits_5 rfl ?_
  refine xt_iload_n C dX6_bits_6 rfl ?_
  refine xt_cV C mv_X6_isTile lkX6_165 (ct_isTile (by exact hM9)) rfl (by decide) (xt_cl49 _ _) rfl (by decide) rfl (Nat.le_of_ble_eq_true rfl) dX6_bits_7 ?_
  refine xt_if_neB (tgt := 19) C dX6_bits_10 (by decide) (fun c10 => ?_) (fun c10 => ?_)
  · refine xt_iload_n C dX6_bits_19 rfl ?_
    refine xt_iconst (v := -1) C dX6_bits_20 rfl ?_
    refine xt_bipush (v := nI 8) C dX6_bits_21 (by decide) ?_
    refine xt_cS C ms_X6_in lkX6_81 ct_in rfl (by decide) rfl (Nat.le_of_ble_eq_true rfl) dX6_bits_23 ?_
    refine xt_if_neB (tgt := 35) C dX6_bits_26 (by decide) (fun c26 => ?_) (fun c26 => ?_)
    · exact absurd c26 hq
    · refine xt_aload_n C dX6_bits_29 rfl ?_
      refine xt_iconst (v := nI 2) C dX6_bits_30 rfl ?_
      refine xt_cV C mv_X6_raises lkX6_142 ct_mraises rfl (by decide) (xt_cl49 _ _) rfl (by decide) rfl (Nat.le_of_ble_eq_true rfl) dX6_bits_31 ?_
      exact xt_iret C dX6_bits_34 ⟨by decide, by decide⟩ ⟨rfl, xt_mr_x xt_mfr_rf⟩
  · exact absurd hbad c10
set_option maxRecDepth 20000 in
set_option maxHeartbeats 2000000 in
theorem ct_mroots {c r sd lv bo : Nat} (hM : xt_Mp S c r sd lv bo) {t : Nat} (ht : t < xt_nt c r sd) {v k : Nat → Int32} (hvv : ∀ j, j < 256 → xt_mV S j = v j) (hkk : ∀ j, j < 256 → xt_mK S j = k j) (hvr : ∀ j, j < 256 → ∃ m, m ≤ 255 ∧ v j = nI m) (hk : ∀ j, j < 256 → k j = nI 0 ∨ k j = nI 1) {n : Nat} (hn9 : n ≤ 9) : xt_Ct E l yX6_roots cX6_roots 7 (some Jvm.ClassFile.FieldType.int) 4 101 0 0 [.ref (E.1 49), .int (nI t), .int (nI n)] S (xt_Ep (some (.int (xt_tR c r sd lv t n v))) (xt_mr S 0)) := by
  refine xt_body (by decide +kernel) (xt_all rfl) (Nat.le_of_ble_eq_true rfl) (fun cx C hl9 => ?_)
  show xt_X E cx _ 0 0 0 [some (.ref (E.1 49)), some (.int (nI t)), some (.int (nI n)), none, none, none, none] [] S
  have hM9 := hM
  obtain ⟨hc, hr, hs, hv, hb, b1, b2, b3, b4, b5, b6, b7⟩ := hM
  have hn := xt_nt_b ⟨b1, b2⟩ ⟨b3, b4⟩ b5
  have hT := xt_tile_b ⟨b1, b2⟩ ⟨b3, b4⟩ b5 ht
  have hdl : (xt_tD c r sd lv t) ≤ 3 := xt_dep_le.2
  have hk9 : ∀ j, j < 256 → xt_mK S j = nI 0 ∨ xt_mK S j = nI 1 := fun j hj => by rw [hkk j hj]; exact hk j hj
  refine xt_aload_n C dX6_roots_0 rfl ?_
  refine xt_iconst (v := nI 0) C dX6_roots_1 rfl ?_
  refine xt_put (f := 0) C xt_u6 rfl (by decide) (xt_cl49 _ _) (by decide) tyX6 tyX6_ok nmX6 lkX6_74 rfl (tyX6_ok 0 (by decide)) rfl rfl (Nat.le_of_ble_eq_true rfl) rfl dX6_roots_2 ?_
  refine xt_aload_n C dX6_roots_5 rfl ?_
  refine xt_iload_n C dX6_roots_6 rfl ?_
  refine xt_cV C mv_X6_isTile lkX6_165 (ct_isTile (by exact hM9)) rfl (by decide) (xt_cl49 _ _) rfl (by decide) rfl (Nat.le_of_ble_eq_true rfl) dX6_roots_7 ?_
  refine xt_if_neB (tgt := 19) C dX6_roots_10 (by decide) (fun c10 => ?_) (fun c10 => ?_)
  · refine xt_iload_n C dX6_roots_19 rfl ?_
    refine xt_iconst (v := nI 0) C dX6_roots_20 rfl ?_
    refine xt_bipush (v := nI 9) C dX6_roots_21 (by decide) ?_
    refine xt_cS C ms_X6_in lkX6_81 ct_in rfl (by decide) rfl (Nat.le_of_ble_eq_true rfl) dX6_roots_23 ?_
    refine xt_if_neB (tgt := 35) C dX6_roots_26 (by decide) (fun c26 => ?_) (fun c26 => ?_)
    · refine xt_aload_n C dX6_roots_35 rfl ?_
      refine xt_iload_n C dX6_roots_36 rfl ?_
      refine xt_cVpn C mv_X6_looks lkX6_169 (ct_looks (by exact hM9) ht (by exact hk9)) rfl (by decide) (xt_cl49 _ _) rfl (by decide) rfl (Nat.le_of_ble_eq_true rfl) dX6_roots_37 (fun S9 hq9 => ?_)
      obtain ⟨hfr, hL0⟩ := hq9
      have hL := xt_ML_c ⟨b1, b2⟩ ⟨b3, b4⟩ b5 ht hvv hkk hL0
      rename xt_St => T1
      have hMt := hL.1
      obtain ⟨m1, m2, m3, m4, g1, g2, g3, g4, g5, g6, g7⟩ := id hMt
      refine xt_iconst (v := nI 0) C dX6_roots_40 rfl ?_
      refine xt_istore_n (lo' := [_, _, _, _, _, _, _]) C dX6_roots_41 (Nat.le_of_ble_eq_true rfl) rfl rfl ?_
      refine xt_iconst (v := nI 0) C dX6_roots_42 rfl ?_
      refine xt_istore (lo' := [_, _, _, _, _, _, _]) C dX6_roots_43 (Nat.le_of_ble_eq_true rfl) rfl rfl ?_
      have out1 : ∀ (d1 y : Nat), y ≤ (xt_gh c r sd t) →  (xt_gh c r sd t) + 1 ≤ y + d1 → xt_X E cx (xt_ZM E cx 0 0 (xt_Ep (some (.int (xt_tR c r sd lv t n v))) (xt_mr S 0))) 0 0 45 [some (.ref (E.1 49)), some (.int (nI t)), some (.int (nI n)), some (.int (xt_it (fun y s => xt_it (fun x s => xt_ci (xt_root (xt_pf (xt_tD c r sd lv t) (xt_gw c sd t) (xt_gh c r sd t)) (xt_loud (xt_pf (xt_tD c r sd lv t) (xt_gw c sd t) (xt_gh c r sd t)) (xt_tC c r sd lv t v) (nI (1 * 2 ^ n)) (fun y9 x9 => y9 < (xt_gh c r sd t) ∧ x9 < (xt_gw c sd t))) (8 * y + x)) s) (xt_gw c sd t) s) y 0)), some (.int (nI y)), none, none] [] T1 := by
        intro d1
        induction d1 with
        | zero => intro y  h0y  h1y; exact absurd h1y (by omega)
        | succ d1 ih1 =>
          intro y  h0y  h1y
          refine xt_iload C dX6_roots_45 rfl ?_
          refine xt_aload_n C dX6_roots_47 rfl ?_
          refine xt_get (f := 20) C xt_u6 rfl (by decide) (xt_cl49 _ _) (by decide) lkX6_41 rfl dX6_roots_48 ?_
          refine xt_iconst (v := nI 0) C dX6_roots_51 rfl ?_
          refine xt_ialdN C (by decide) (xt_cl58 _) (by decide) (by decide) (show T1.2.1 58 0 = nI (xt_gh c r sd t) from by rw [(m4 0 (by omega)).2, xt_lo_0]) dX6_roots_52 ?_
          refine xt_icmp_geN (tgt := 126) C dX6_roots_53 (by decide) (by omega) (by omega) (fun c53 => ?_) (fun c53 => ?_)
          · refine xt_iload_n C dX6_roots_126 rfl ?_
            exact xt_iret C dX6_roots_127 ⟨by decide, by decide⟩ ⟨by rw [show y = (xt_gh c r sd t) by omega]; rfl, xt_mr_0 hfr⟩
          · refine xt_iconst (v := nI 0) C dX6_roots_56 rfl ?_
            refine xt_istore (lo' := [_, _, _, _, _, _, _]) C dX6_roots_57 (Nat.le_of_ble_eq_true rfl) rfl rfl ?_
            have in2 : ∀ (d2 x : Nat), x ≤ (xt_gw c sd t) →  (xt_gw c sd t) + 1 ≤ x + d2 → xt_X E cx (xt_ZM E cx 0 0 (xt_Ep (some (.int (xt_tR c r sd lv t n v))) (xt_mr S 0))) 0 0 59 [some (.ref (E.1 49)), some (.int (nI t)), some (.int (nI n)), some (.int (xt_it (fun x s => xt_ci (xt_root (xt_pf (xt_tD c r sd lv t) (xt_gw c sd t) (xt_gh c r sd t)) (xt_loud (xt_pf (xt_tD c r sd lv t) (xt_gw c sd t) (xt_gh c r sd t)) (xt_tC c r sd lv t v) (nI (1 * 2 ^ n)) (fun y9 x9 => y9 < (xt_gh c r sd t) ∧ x9 < (xt_gw c sd t))) (8 * y + x)) s) x (xt_it (fun y s => xt_it (fun x s => xt_ci (xt_root (xt_pf (xt_tD c r sd lv t) (xt_gw c sd t) (xt_gh c r sd t)) (xt_loud (xt_pf (xt_tD c r sd lv t) (xt_gw c sd t) (xt_gh c r sd t)) (xt_tC c r sd lv t v) (nI (1 * 2 ^ n)) (fun y9 x9 => y9 < (xt_gh c r sd t) ∧ x9 < (xt_gw c sd t))) (8 * y + x)) s) (xt_gw c sd t) s) y 0))), some (.int (nI y)), some (.int (nI x)), none] [] T1 := by
              intro d2
              induction d2 with
              | zero => intro x  h0x  h1x; exact absurd h1x (by omega)
              | succ d2 ih2 =>
                intro x  h0x  h1x
                refine xt_iload C dX6_roots_59 rfl ?_
                refine xt_aload_n C dX6_roots_61 rfl ?_
                refine xt_get (f := 19) C xt_u6 rfl (by decide) (xt_cl49 _ _) (by decide) lkX6_38 rfl dX6_roots_62 ?_
                refine xt_iconst (v := nI 0) C dX6_roots_65 rfl ?_
                refine xt_ialdN C (by decide) (xt_cl57 _) (by decide) (by decide) (show T1.2.1 57 0 = nI (xt_gw c sd t) from by rw [(m4 0 (by omega)).1, xt_lo_0]) dX6_roots_66 ?_
                refine xt_icmp_geN (tgt := 120) C dX6_roots_67 (by decide) (by omega) (by omega) (fun c67 => ?_) (fun c67 => ?_)
                · refine xt_iincN (z := 1) (lo' := [_, _, _, _, _, _, _]) C dX6_roots_120 rfl rfl rfl ?_
                  refine xt_goto (tgt := 45) C dX6_roots_123 (by decide) ?_
                  have hx9 : x = (xt_gw c sd t) := by omega
                  subst hx9
                  exact xt_fg (by repeat' constructor) (ih1 (y + 1) (by omega)  (by omega))
                · have hin : xt_in (xt_gw c sd t) (xt_gh c r sd t) (8 * y + x) := ⟨by omega, by omega⟩
                  have hpo : xt_pp (xt_tD c r sd lv t) (xt_gw c sd t) (xt_gh c r sd t) x y = xt_oI ((xt_pf (xt_tD c r sd lv t) (xt_gw c sd t) (xt_gh c r sd t)) (8 * y + x)) := by
                    have h9 := xt_pf_I g5 g2 g4 hin
                    rw [show (8 * y + x) % 8 = x by omega, show (8 * y + x) / 8 = y by omega] at h9
                    exact h9
                  refine xt_aload_n C dX6_roots_70 rfl ?_
                  refine xt_iload C dX6_roots_71 rfl ?_
                  refine xt_iload C dX6_roots_73 rfl ?_
                  refine xt_cV C mv_X6_parent lkX6_193 (ct_parent hMt (by omega) (by omega)) rfl (by decide) (xt_cl49 _ _) rfl (by decide) rfl (Nat.le_of_ble_eq_true rfl) dX6_roots_75 ?_
                  rw [hpo]
                  refine xt_istore (lo' := [_, _, _, _, _, _, _]) C dX6_roots_78 (Nat.le_of_ble_eq_true rfl) rfl rfl ?_
                  refine xt_aload_n C dX6_roots_80 rfl ?_
                  refine xt_aload_n C dX6_roots_81 rfl ?_
                  refine xt_iload C dX6_roots_82 rfl ?_
                  refine xt_iload C dX6_roots_84 rfl ?_
                  refine xt_cV C mv_X6_place lkX6_116 ct_mplace rfl (by decide) (xt_cl49 _ _) rfl (by decide) rfl (Nat.le_of_ble_eq_true rfl) dX6_roots_86 ?_
                  refine xt_iload_n C dX6_roots_89 rfl ?_
                  refine xt_cV C mv_X6_isQuiet lkX6_199 (ct_isQuiet (by exact xt_mfr_Mp hfr hM9) ht hL (xt_tA ⟨b1, b2⟩ ⟨b3, b4⟩ b5 ht hvr) (by omega) hn9) rfl (by decide) (xt_cl49 _ _) rfl (by decide) rfl (Nat.le_of_ble_eq_true rfl) dX6_roots_90 ?_
                  refine xt_if_eqB (tgt := 114) C dX6_roots_93 (by decide) (fun c93 => ?_) (fun c93 => ?_)
                  · have hz : ¬ (xt_root (xt_pf (xt_tD c r sd lv t) (xt_gw c sd t) (xt_gh c r sd t)) (xt_loud (xt_pf (xt_tD c r sd lv t) (xt_gw c sd t) (xt_gh c r sd t)) (xt_tC c r sd lv t v) (nI (1 * 2 ^ n)) (fun y9 x9 => y9 < (xt_gh c r sd t) ∧ x9 < (xt_gw c sd t))) (8 * y + x)) := fun z => c93 z.1
                    refine xt_iincN (z := 1) (lo' := [_, _, _, _, _, _, _]) C dX6_roots_114 rfl rfl rfl ?_
                    refine xt_goto (tgt := 59) C dX6_roots_117 (by decide) ?_
                    have h9 := ih2 (x + 1) (by omega)  (by omega)
                    rw [show xt_it (fun x s => xt_ci (xt_root (xt_pf (xt_tD c r sd lv t) (xt_gw c sd t) (xt_gh c r sd t)) (xt_loud (xt_pf (xt_tD c r sd lv t) (xt_gw c sd t) (xt_gh c r sd t)) (xt_tC c r sd lv t v) (nI (1 * 2 ^ n)) (fun y9 x9 => y9 < (xt_gh c r sd t) ∧ x9 < (xt_gw c sd t))) (8 * y + x)) s) (x + 1) (xt_it (fun y s => xt_it (fun x s => xt_ci (xt_root (xt_pf (xt_tD c r sd lv t) (xt_gw c sd t) (xt_gh c r sd t)) (xt_loud (xt_pf (xt_tD c r sd lv t) (xt_gw c sd t) (xt_gh c r sd t)) (xt_tC c r sd lv t v) (nI (1 * 2 ^ n)) (fun y9 x9 => y9 < (xt_gh c r sd t) ∧ x9 < (xt_gw c sd t))) (8 * y + x)) s) (xt_gw c sd t) s) y 0) = xt_ci (xt_root (xt_pf (xt_tD c r sd lv t) (xt_gw c sd t) (xt_gh c r sd t)) (xt_loud (xt_pf (xt_tD c r sd lv t) (xt_gw c sd t) (xt_gh c r sd t)) (xt_tC c r sd lv t v) (nI (1 * 2 ^ n)) (fun y9 x9 => y9 < (xt_gh c r sd t) ∧ x9 < (xt_gw c sd t))) (8 * y + x)) (xt_it (fun x s => xt_ci (xt_root (xt_pf (xt_tD c r sd lv t) (xt_gw c sd t) (xt_gh c r sd t)) (xt_loud (xt_pf (xt_tD c r sd lv t) (xt_gw c sd t) (xt_gh c r sd t)) (xt_tC c r sd lv t v) (nI (1 * 2 ^ n)) (fun y9 x9 => y9 < (xt_gh c r sd t) ∧ x9 < (xt_gw c sd t))) (8 * y + x)) s) x (xt_it (fun y s => xt_it (fun x s => xt_ci (xt_root (xt_pf (xt_tD c r sd lv t) (xt_gw c sd t) (xt_gh c r sd t)) (xt_loud (xt_pf (xt_tD c r sd lv t) (xt_gw c sd t) (xt_gh c r sd t)) (xt_tC c r sd lv t v) (nI (1 * 2 ^ n)) (fun y9 x9 => y9 < (xt_gh c r sd t) ∧ x9 < (xt_gw c sd t))) (8 * y + x)) s) (xt_gw c sd t) s) y 0)) from rfl] at h9
                    first
                    | rw [xt_ci1 hz] at h9
                    | rw [xt_ci0 hz] at h9
                    exact xt_fg (by repeat' constructor) h9
                  · refine xt_iload C dX6_roots_96 rfl ?_
                    refine xt_if_lt (tgt := 111) C dX6_roots_98 (by decide) (fun c98 => ?_) (fun c98 => ?_)
                    · have hz : (xt_root (xt_pf (xt_tD c r sd lv t) (xt_gw c sd t) (xt_gh c r sd t)) (xt_loud (xt_pf (xt_tD c r sd lv t) (xt_gw c sd t) (xt_gh c r sd t)) (xt_tC c r sd lv t v) (nI (1 * 2 ^ n)) (fun y9 x9 => y9 < (xt_gh c r sd t) ∧ x9 < (xt_gw c sd t))) (8 * y + x)) := ⟨c93, Or.inl (xt_oI_neg c98 (fun q hq => xt_in64 g2 g4 (xt_pf_T g5 g2 g4 _ _ hin hq)))⟩
                      refine xt_iinc (lo' := [_, _, _, _, _, _, _]) C dX6_roots_111 rfl rfl rfl rfl ?_
                      refine xt_iincN (z := 1) (lo' := [_, _, _, _, _, _, _]) C dX6_roots_114 rfl rfl rfl ?_
                      refine xt_goto (tgt := 59) C dX6_roots_117 (by decide) ?_
                      have h9 := ih2 (x + 1) (by omega)  (by omega)
                      rw [show xt_it (fun x s => xt_ci (xt_root (xt_pf (xt_tD c r sd lv t) (xt_gw c sd t) (xt_gh c r sd t)) (xt_loud (xt_pf (xt_tD c r sd lv t) (xt_gw c sd t) (xt_gh c r sd t)) (xt_tC c r sd lv t v) (nI (1 * 2 ^ n)) (fun y9 x9 => y9 < (xt_gh c r sd t) ∧ x9 < (xt_gw c sd t))) (8 * y + x)) s) (x + 1) (xt_it (fun y s => xt_it (fun x s => xt_ci (xt_root (xt_pf (xt_tD c r sd lv t) (xt_gw c sd t) (xt_gh c r sd t)) (xt_loud (xt_pf (xt_tD c r sd lv t) (xt_gw c sd t) (xt_gh c r sd t)) (xt_tC c r sd lv t v) (nI (1 * 2 ^ n)) (fun y9 x9 => y9 < (xt_gh c r sd t) ∧ x9 < (xt_gw c sd t))) (8 * y + x)) s) (xt_gw c sd t) s) y 0) = xt_ci (xt_root (xt_pf (xt_tD c r sd lv t) (xt_gw c sd t) (xt_gh c r sd t)) (xt_loud (xt_pf (xt_tD c r sd lv t) (xt_gw c sd t) (xt_gh c r sd t)) (xt_tC c r sd lv t v) (nI (1 * 2 ^ n)) (fun y9 x9 => y9 < (xt_gh c r sd t) ∧ x9 < (xt_gw c sd t))) (8 * y + x)) (xt_it (fun x s => xt_ci (xt_root (xt_pf (xt_tD c r sd lv t) (xt_gw c sd t) (xt_gh c r sd t)) (xt_loud (xt_pf (xt_tD c r sd lv t) (xt_gw c sd t) (xt_gh c r sd t)) (xt_tC c r sd lv t v) (nI (1 * 2 ^ n)) (fun y9 x9 => y9 < (xt_gh c r sd t) ∧ x9 < (xt_gw c sd t))) (8 * y + x)) s) x (xt_it (fun y s => xt_it (fun x s => xt_ci (xt_root (xt_pf (xt_tD c r sd lv t) (xt_gw c sd t) (xt_gh c r sd t)) (xt_loud (xt_pf (xt_tD c r sd lv t) (xt_gw c sd t) (xt_gh c r sd t)) (xt_tC c r sd lv t v) (nI (1 * 2 ^ n)) (fun y9 x9 => y9 < (xt_gh c r sd t) ∧ x9 < (xt_gw c sd t))) (8 * y + x)) s) (xt_gw c sd t) s) y 0)) from rfl] at h9
                      first
                      | rw [xt_ci1 hz] at h9
                      | rw [xt_ci0 hz] at h9
                      exact xt_fg (by repeat' constructor) h9
                    · obtain ⟨q, hq⟩ := xt_oI_pos c98
                      have hq64 := xt_in64 g2 g4 (xt_pf_T g5 g2 g4 _ _ hin hq)
                      rw [hq, show xt_oI (some q) = nI q from rfl]
                      refine xt_aload_n C dX6_roots_101 rfl ?_
                      refine xt_iload C dX6_roots_102 rfl ?_
                      refine xt_iload_n C dX6_roots_104 rfl ?_
                      refine xt_cV C mv_X6_isQuiet lkX6_199 (ct_isQuiet (by exact xt_mfr_Mp hfr hM9) ht hL (xt_tA ⟨b1, b2⟩ ⟨b3, b4⟩ b5 ht hvr) hq64 hn9) rfl (by decide) (xt_cl49 _ _) rfl (by decide) rfl (Nat.le_of_ble_eq_true rfl) dX6_roots_105 ?_
                      refine xt_if_neB (tgt := 114) C dX6_roots_108 (by decide) (fun c108 => ?_) (fun c108 => ?_)
                      · have hz : ¬ (xt_root (xt_pf (xt_tD c r sd lv t) (xt_gw c sd t) (xt_gh c r sd t)) (xt_loud (xt_pf (xt_tD c r sd lv t) (xt_gw c sd t) (xt_gh c r sd t)) (xt_tC c r sd lv t v) (nI (1 * 2 ^ n)) (fun y9 x9 => y9 < (xt_gh c r sd t) ∧ x9 < (xt_gw c sd t))) (8 * y + x)) := fun z => z.2.elim (fun e9 => by rw [hq] at e9; cases e9) (fun ⟨q9, e9, hl9⟩ => by rw [hq] at e9; cases e9; exact c108 hl9)
                        refine xt_iincN (z := 1) (lo' := [_, _, _, _, _, _, _]) C dX6_roots_114 rfl rfl rfl ?_
                        refine xt_goto (tgt := 59) C dX6_roots_117 (by decide) ?_
                        have h9 := ih2 (x + 1) (by omega)  (by omega)
                        rw [show xt_it (fun x s => xt_ci (xt_root (xt_pf (xt_tD c r sd lv t) (xt_gw c sd t) (xt_gh c r sd t)) (xt_loud (xt_pf (xt_tD c r sd lv t) (xt_gw c sd t) (xt_gh c r sd t)) (xt_tC c r sd lv t v) (nI (1 * 2 ^ n)) (fun y9 x9 => y9 < (xt_gh c r sd t) ∧ x9 < (xt_gw c sd t))) (8 * y + x)) s) (x + 1) (xt_it (fun y s => xt_it (fun x s => xt_ci (xt_root (xt_pf (xt_tD c r sd lv t) (xt_gw c sd t) (xt_gh c r sd t)) (xt_loud (xt_pf (xt_tD c r sd lv t) (xt_gw c sd t) (xt_gh c r sd t)) (xt_tC c r sd lv t v) (nI (1 * 2 ^ n)) (fun y9 x9 => y9 < (xt_gh c r sd t) ∧ x9 < (xt_gw c sd t))) (8 * y + x)) s) (xt_gw c sd t) s) y 0) = xt_ci (xt_root (xt_pf (xt_tD c r sd lv t) (xt_gw c sd t) (xt_gh c r sd t)) (xt_loud (xt_pf (xt_tD c r sd lv t) (xt_gw c sd t) (xt_gh c r sd t)) (xt_tC c r sd lv t v) (nI (1 * 2 ^ n)) (fun y9 x9 => y9 < (xt_gh c r sd t) ∧ x9 < (xt_gw c sd t))) (8 * y + x)) (xt_it (fun x s => xt_ci (xt_root (xt_pf (xt_tD c r sd lv t) (xt_gw c sd t) (xt_gh c r sd t)) (xt_loud (xt_pf (xt_tD c r sd lv t) (xt_gw c sd t) (xt_gh c r sd t)) (xt_tC c r sd lv t v) (nI (1 * 2 ^ n)) (fun y9 x9 => y9 < (xt_gh c r sd t) ∧ x9 < (xt_gw c sd t))) (8 * y + x)) s) x (xt_it (fun y s => xt_it (fun x s => xt_ci (xt_root (xt_pf (xt_tD c r sd lv t) (xt_gw c sd t) (xt_gh c r sd t)) (xt_loud (xt_pf (xt_tD c r sd lv t) (xt_gw c sd t) (xt_gh c r sd t)) (xt_tC c r sd lv t v) (nI (1 * 2 ^ n)) (fun y9 x9 => y9 < (xt_gh c r sd t) ∧ x9 < (xt_gw c sd t))) (8 * y + x)) s) (xt_gw c sd t) s) y 0)) from rfl] at h9
                        first
                        | rw [xt_ci1 hz] at h9
                        | rw [xt_ci0 hz] at h9
                        exact xt_fg (by repeat' constructor) h9
                      · have hz : (xt_root (xt_pf (xt_tD c r sd lv t) (xt_gw c sd t) (xt_gh c r sd t)) (xt_loud (xt_pf (xt_tD c r sd lv t) (xt_gw c sd t) (xt_gh c r sd t)) (xt_tC c r sd lv t v) (nI (1 * 2 ^ n)) (fun y9 x9 => y9 < (xt_gh c r sd t) ∧ x9 < (xt_gw c sd t))) (8 * y + x)) := ⟨c93, Or.inr ⟨q, hq, Classical.byContradiction c108⟩⟩
                        refine xt_iinc (lo' := [_, _, _, _, _, _, _]) C dX6_roots_111 rfl rfl rfl rfl ?_
                        refine xt_iincN (z := 1) (lo' := [_, _, _, _, _, _, _]) C dX6_roots_114 rfl rfl rfl ?_
                        refine xt_goto (tgt := 59) C dX6_roots_117 (by decide) ?_
                        have h9 := ih2 (x + 1) (by omega)  (by omega)
                        rw [show xt_it (fun x s => xt_ci (xt_root (xt_pf (xt_tD c r sd lv t) (xt_gw c sd t) (xt_gh c r sd t)) (xt_loud (xt_pf (xt_tD c r sd lv t) (xt_gw c sd t) (xt_gh c r sd t)) (xt_tC c r sd lv t v) (nI (1 * 2 ^ n)) (fun y9 x9 => y9 < (xt_gh c r sd t) ∧ x9 < (xt_gw c sd t))) (8 * y + x)) s) (x + 1) (xt_it (fun y s => xt_it (fun x s => xt_ci (xt_root (xt_pf (xt_tD c r sd lv t) (xt_gw c sd t) (xt_gh c r sd t)) (xt_loud (xt_pf (xt_tD c r sd lv t) (xt_gw c sd t) (xt_gh c r sd t)) (xt_tC c r sd lv t v) (nI (1 * 2 ^ n)) (fun y9 x9 => y9 < (xt_gh c r sd t) ∧ x9 < (xt_gw c sd t))) (8 * y + x)) s) (xt_gw c sd t) s) y 0) = xt_ci (xt_root (xt_pf (xt_tD c r sd lv t) (xt_gw c sd t) (xt_gh c r sd t)) (xt_loud (xt_pf (xt_tD c r sd lv t) (xt_gw c sd t) (xt_gh c r sd t)) (xt_tC c r sd lv t v) (nI (1 * 2 ^ n)) (fun y9 x9 => y9 < (xt_gh c r sd t) ∧ x9 < (xt_gw c sd t))) (8 * y + x)) (xt_it (fun x s => xt_ci (xt_root (xt_pf (xt_tD c r sd lv t) (xt_gw c sd t) (xt_gh c r sd t)) (xt_loud (xt_pf (xt_tD c r sd lv t) (xt_gw c sd t) (xt_gh c r sd t)) (xt_tC c r sd lv t v) (nI (1 * 2 ^ n)) (fun y9 x9 => y9 < (xt_gh c r sd t) ∧ x9 < (xt_gw c sd t))) (8 * y + x)) s) x (xt_it (fun y s => xt_it (fun x s => xt_ci (xt_root (xt_pf (xt_tD c r sd lv t) (xt_gw c sd t) (xt_gh c r sd t)) (xt_loud (xt_pf (xt_tD c r sd lv t) (xt_gw c sd t) (xt_gh c r sd t)) (xt_tC c r sd lv t v) (nI (1 * 2 ^ n)) (fun y9 x9 => y9 < (xt_gh c r sd t) ∧ x9 < (xt_gw c sd t))) (8 * y + x)) s) (xt_gw c sd t) s) y 0)) from rfl] at h9
                        first
                        | rw [xt_ci1 hz] at h9
                        | rw [xt_ci0 hz] at h9
                        exact xt_fg (by repeat' constructor) h9
            exact xt_fg (by repeat' constructor) (in2 ((xt_gw c sd t) + 1) 0 (by omega)  (by omega))
      exact xt_fg (by repeat' constructor) (out1 ((xt_gh c r sd t) + 1) 0 (by omega) (by omega))
    · exact absurd ⟨nI_pos' (by omega), nI_le hn9 (by omega)⟩ c26
  · exact absurd ⟨t, ht, rfl⟩ c10
set_option maxRecDepth 20000 in
set_option maxHeartbeats 2000000 in
theorem ct_mroots_t {c r sd lv bo : Nat} (hM : xt_Mp S c r sd lv bo) {a q : Int32} (hbad : ¬ ∃ j, j < xt_nt c r sd ∧ a = nI j) : xt_Ct E l yX6_roots cX6_roots 7 (some Jvm.ClassFile.FieldType.int) 4 101 0 0 [.ref (E.1 49), .int a, .int q] S (xt_Ep (some (.int (nI 0))) (xt_mr S 1)) := by
  refine xt_body (by decide +kernel) (xt_all rfl) (Nat.le_of_ble_eq_true rfl) (fun cx C hl9 => ?_)
  show xt_X E cx _ 0 0 0 [some (.ref (E.1 49)), some (.int a), some (.int q), none, none, none, none] [] S
  have hM9 := hM
  obtain ⟨hc, hr, hs, hv, hb, b1, b2, b3, b4, b5, b6, b7⟩ := hM
  refine xt_aload_n C dX6_roots_0 rfl ?_
  refine xt_iconst (v := nI 0) C dX6_roots_1 rfl ?_
  refine xt_put (f := 0) C xt_u6 rfl (by decide) (xt_cl49 _ _) (by decide) tyX6 tyX6_ok nmX6 lkX6_74 rfl (tyX6_ok 0 (by decide)) rfl rfl (Nat.le_of_ble_eq_true rfl) rfl dX6_roots_2 ?_
  refine xt_aload_n C dX6_roots_5 rfl ?_
  refine xt_iload_n C dX6_roots_6 rfl ?_
  refine xt_cV C mv_X6_isTile lkX6_165 (ct_isTile (by exact hM9)) rfl (by decide) (xt_cl49 _ _) rfl (by decide) rfl (Nat.le_of_ble_eq_true rfl) dX6_roots_7 ?_
  refine xt_if_neB (tgt := 19) C dX6_roots_10 (by decide) (fun c10 => ?_) (fun c10 => ?_)
  · exact absurd c10 hbad
  · refine xt_aload_n C dX6_roots_13 rfl ?_
    refine xt_iconst (v := nI 1) C dX6_roots_14 rfl ?_
    refine xt_cV C mv_X6_raises lkX6_142 ct_mraises rfl (by decide) (xt_cl49 _ _) rfl (by decide) rfl (Nat.le_of_ble_eq_true rfl) dX6_roots_15 ?_
    exact xt_iret C dX6_roots_18 ⟨by decide, by decide⟩ ⟨rfl, xt_mr_x xt_mfr_rf⟩
set_option maxRecDepth 20000 in
set_option maxHeartbeats 2000000 in
theorem ct_mroots_q {c r sd lv bo : Nat} (hM : xt_Mp S c r sd lv bo) {a q : Int32} (hbad : ∃ j, j < xt_nt c r sd ∧ a = nI j) (hq : ¬ (nI 0 ≤ q ∧ q ≤ nI 9)) : xt_Ct E l yX6_roots cX6_roots 7 (some Jvm.ClassFile.FieldType.int) 4 101 0 0 [.ref (E.1 49), .int a, .int q] S (xt_Ep (some (.int (nI 0))) (xt_mr S 2)) := by
  refine xt_body (by decide +kernel) (xt_all rfl) (Nat.le_of_ble_eq_true rfl) (fun cx C hl9 => ?_)
  show xt_X E cx _ 0 0 0 [some (.ref (E.1 49)), some (.int a), some (.int q), none, none, none, none] [] S
  have hM9 := hM
  obtain ⟨hc, hr, hs, hv, hb, b1, b2, b3, b4, b5, b6, b7⟩ := hM
  refine xt_aload_n C dX6_roots_0 rfl ?_
  refine xt_iconst (v := nI 0) C dX6_roots_1 rfl ?_
  refine xt_put (f := 0) C xt_u6 rfl (by decide) (xt_cl49 _ _) (by decide) tyX6 tyX6_ok nmX6 lkX6_74 rfl (tyX6_ok 0 (by decide)) rfl rfl (Nat.le_of_ble_eq_true rfl) rfl dX6_roots_2 ?_
  refine xt_aload_n C dX6_roots_5 rfl ?_
  refine xt_iload_n C dX6_roots_6 rfl ?_
  refine xt_cV C mv_X6_isTile lkX6_165 (ct_isTile (by exact hM9)) rfl (by decide) (xt_cl49 _ _) rfl (by decide) rfl (Nat.le_of_ble_eq_true rfl) dX6_roots_7 ?_
  refine xt_if_neB (tgt := 19) C dX6_roots_10 (by decide) (fun c10 => ?_) (fun c10 => ?_)
  · refine xt_iload_n C dX6_roots_19 rfl ?_
    refine xt_iconst (v := nI 0) C dX6_roots_20 rfl ?_
    refine xt_bipush (v := nI 9) C dX6_roots_21 (by decide) ?_
    refine xt_cS C ms_X6_in lkX6_81 ct_in rfl (by decide) rfl (Nat.le_of_ble_eq_true rfl) dX6_roots_23 ?_
    refine xt_if_neB (tgt := 35) C dX6_roots_26 (by decide) (fun c26 => ?_) (fun c26 => ?_)
    · exact absurd c26 hq
    · refine xt_aload_n C dX6_roots_29 rfl ?_
      refine xt_iconst (v := nI 2) C dX6_roots_30 rfl ?_
      refine xt_cV C mv_X6_raises lkX6_142 ct_mraises rfl (by decide) (xt_cl49 _ _) rfl (by decide) rfl (Nat.le_of_ble_eq_true rfl) dX6_roots_31 ?_
      exact xt_iret C dX6_roots_34 ⟨by decide, by decide⟩ ⟨rfl, xt_mr_x xt_mfr_rf⟩
  · exact absurd hbad c10
set_option maxRecDepth 20000 in
set_option maxHeartbeats 2000000 in
theorem ct_mdecoded {c r sd lv bo : Nat} (hM : xt_Mp S c r sd lv bo) {v k : Nat → Int32} (hvv : ∀ j, j < 256 → xt_mV S j = v j) (hkk : ∀ j, j < 256 → xt_mK S j = k j) (hvr : ∀ j, j < 256 → ∃ m, m ≤ 255 ∧ v j = nI m) (hk : ∀ j, j < 256 → k j = nI 0 ∨ k j = nI 1) {x y : Nat} (hx : x < c) (hy : y < r) {t : Nat} (et : t = y / sd * xt_ac c sd + x / sd) {n : Nat} (hn9 : n ≤ 9) : xt_Ct E l yX6_decoded cX6_decoded 4 (some Jvm.ClassFile.FieldType.int) 4 84 0 0 [.ref (E.1 49), .int (nI n), .int (nI x), .int (nI y)] S (xt_Ep (some (.int (xt_tJ c r sd lv bo t n v k (8 * (y - (xt_gt c sd t)) + (x - (xt_gl c sd t)))))) (xt_mr S 0)) := by
  refine xt_body (by decide +kernel) (xt_all rfl) (Nat.le_of_ble_eq_true rfl) (fun cx C hl9 => ?_)
  show xt_X E cx _ 0 0 0 [some (.ref (E.1 49)), some (.int (nI n)), some (.int (nI x)), some (.int (nI y))] [] S
  have hM9 := hM
  obtain ⟨hc, hr, hs, hv, hb, b1, b2, b3, b4, b5, b6, b7⟩ := hM
  obtain ⟨ht, q1, q2, q3, q4⟩ := xt_tof ⟨b1, b2⟩ ⟨b3, b4⟩ b5 hx hy et
  have hn := xt_nt_b ⟨b1, b2⟩ ⟨b3, b4⟩ b5
  have hT := xt_tile_b ⟨b1, b2⟩ ⟨b3, b4⟩ b5 ht
  have hdl : (xt_tD c r sd lv t) ≤ 3 := xt_dep_le.2
  have hk9 : ∀ j, j < 256 → xt_mK S j = nI 0 ∨ xt_mK S j = nI 1 := fun j hj => by rw [hkk j hj]; exact hk j hj
  refine xt_aload_n C dX6_decoded_0 rfl ?_
  refine xt_iconst (v := nI 0) C dX6_decoded_1 rfl ?_
  refine xt_put (f := 0) C xt_u6 rfl (by decide) (xt_cl49 _ _) (by decide) tyX6 tyX6_ok nmX6 lkX6_74 rfl (tyX6_ok 0 (by decide)) rfl rfl (Nat.le_of_ble_eq_true rfl) rfl dX6_decoded_2 ?_
  refine xt_iload_n C dX6_decoded_5 rfl ?_
  refine xt_iconst (v := nI 0) C dX6_decoded_6 rfl ?_
  refine xt_bipush (v := nI 9) C dX6_decoded_7 (by decide) ?_
  refine xt_cS C ms_X6_in lkX6_81 ct_in rfl (by decide) rfl (Nat.le_of_ble_eq_true rfl) dX6_decoded_9 ?_
  refine xt_if_neB (tgt := 21) C dX6_decoded_12 (by decide) (fun c12 => ?_) (fun c12 => ?_)
  · refine xt_aload_n C dX6_decoded_21 rfl ?_
    refine xt_iload_n C dX6_decoded_22 rfl ?_
    refine xt_iload_n C dX6_decoded_23 rfl ?_
    refine xt_cV C mv_X6_isPixel lkX6_158 (ct_isPixel (by exact hM9)) rfl (by decide) (xt_cl49 _ _) rfl (by decide) rfl (Nat.le_of_ble_eq_true rfl) dX6_decoded_24 ?_
    refine xt_if_neB (tgt := 36) C dX6_decoded_27 (by decide) (fun c27 => ?_) (fun c27 => ?_)
    · refine xt_aload_n C dX6_decoded_36 rfl ?_
      refine xt_iload_n C dX6_decoded_37 rfl ?_
      refine xt_aload_n C dX6_decoded_38 rfl ?_
      refine xt_get (f := 1) C xt_u6 rfl (by decide) (xt_cl49 _ _) (by decide) lkX6_9 rfl dX6_decoded_39 ?_
      refine xt_iconst (v := nI 2) C dX6_decoded_42 rfl ?_
      refine xt_ialdN C (by decide) (xt_cl50 _) (by decide) (by decide) hs dX6_decoded_43 ?_
      refine xt_idivN C dX6_decoded_44 (by omega) (by omega) (by omega) ?_
      refine xt_aload_n C dX6_decoded_45 rfl ?_
      refine xt_cV C mv_X6_across lkX6_88 (ct_macross (by exact hM9)) rfl (by decide) (xt_cl49 _ _) rfl (by decide) rfl (Nat.le_of_ble_eq_true rfl) dX6_decoded_46 ?_
      refine xt_imulN C dX6_decoded_49 ?_
      refine xt_iload_n C dX6_decoded_50 rfl ?_
      refine xt_aload_n C dX6_decoded_51 rfl ?_
      refine xt_get (f := 1) C xt_u6 rfl (by decide) (xt_cl49 _ _) (by decide) lkX6_9 rfl dX6_decoded_52 ?_
      refine xt_iconst (v := nI 2) C dX6_decoded_55 rfl ?_
      refine xt_ialdN C (by decide) (xt_cl50 _) (by decide) (by decide) hs dX6_decoded_56 ?_
      refine xt_idivN C dX6_decoded_57 (by omega) (by omega) (by omega) ?_
      refine xt_iaddN C dX6_decoded_58 ?_
      rw [← et]
      refine xt_cVpn C mv_X6_looks lkX6_169 (ct_looks (by exact hM9) ht (by exact hk9)) rfl (by decide) (xt_cl49 _ _) rfl (by decide) rfl (Nat.le_of_ble_eq_true rfl) dX6_decoded_59 (fun S9 hq9 => ?_)
      obtain ⟨hfr, hL0⟩ := hq9
      have hL := xt_ML_c ⟨b1, b2⟩ ⟨b3, b4⟩ b5 ht hvv hkk hL0
      rename xt_St => T1
      have hMt := hL.1
      obtain ⟨m1, m2, m3, m4, g1, g2, g3, g4, g5, g6, g7⟩ := id hMt
      refine xt_aload_n C dX6_decoded_62 rfl ?_
      refine xt_iload_n C dX6_decoded_63 rfl ?_
      refine xt_cVpn C mv_X6_decodes lkX6_181 (ct_decodes (by exact xt_mfr_Mp hfr hM9) ht hL (xt_tA ⟨b1, b2⟩ ⟨b3, b4⟩ b5 ht hvr) hn9) rfl (by decide) (xt_cl49 _ _) rfl (by decide) rfl (Nat.le_of_ble_eq_true rfl) dX6_decoded_64 (fun S9 hq9 => ?_)
      obtain ⟨hfr2, hL2, hJ⟩ := hq9
      have hfr3 := xt_mfr_tr hfr hfr2
      rename xt_St => T2
      obtain ⟨d1, d2, d3, d4, d5⟩ := hL2.1
      refine xt_aload_n C dX6_decoded_67 rfl ?_
      refine xt_get (f := 23) C xt_u6 rfl (by decide) (xt_cl49 _ _) (by decide) lkX6_51 rfl dX6_decoded_68 ?_
      refine xt_aload_n C dX6_decoded_71 rfl ?_
      refine xt_iload_n C dX6_decoded_72 rfl ?_
      refine xt_aload_n C dX6_decoded_73 rfl ?_
      refine xt_get (f := 16) C xt_u6 rfl (by decide) (xt_cl49 _ _) (by decide) lkX6_97 (xt_vI d1) dX6_decoded_74 ?_
      refine xt_isubN C dX6_decoded_77 (by omega) ?_
      refine xt_iload_n C dX6_decoded_78 rfl ?_
      refine xt_aload_n C dX6_decoded_79 rfl ?_
      refine xt_get (f := 17) C xt_u6 rfl (by decide) (xt_cl49 _ _) (by decide) lkX6_100 (xt_vI d2) dX6_decoded_80 ?_
      refine xt_isubN C dX6_decoded_83 (by omega) ?_
      refine xt_cV C mv_X6_place lkX6_116 ct_mplace rfl (by decide) (xt_cl49 _ _) rfl (by decide) rfl (Nat.le_of_ble_eq_true rfl) dX6_decoded_84 ?_
      refine xt_ialdN C (by decide) (xt_cl61 _) (by omega) (by decide) (hJ _ _ q4 q2) dX6_decoded_87 ?_
      exact xt_iret C dX6_decoded_88 ⟨by decide, by decide⟩ ⟨rfl, xt_mr_0 hfr3⟩
    · exact absurd ⟨⟨x, hx, rfl⟩, y, hy, rfl⟩ c27
  · exact absurd ⟨nI_pos' (by omega), nI_le hn9 (by omega)⟩ c12
set_option maxRecDepth 20000 in
set_option maxHeartbeats 2000000 in
theorem ct_mdecoded_q {n x y : Int32} (hq : ¬ (nI 0 ≤ n ∧ n ≤ nI 9)) : xt_Ct E l yX6_decoded cX6_decoded 4 (some Jvm.ClassFile.FieldType.int) 4 84 0 0 [.ref (E.1 49), .int n, .int x, .int y] S (xt_Ep (some (.int (nI 0))) (xt_mr S 1)) := by
  refine xt_body (by decide +kernel) (xt_all rfl) (Nat.le_of_ble_eq_true rfl) (fun cx C hl9 => ?_)
  show xt_X E cx _ 0 0 0 [some (.ref (E.1 49)), some (.int n), some (.int x), some (.int y)] [] S
  refine xt_aload_n C dX6_decoded_0 rfl ?_
  refine xt_iconst (v := nI 0) C dX6_decoded_1 rfl ?_
  refine xt_put (f := 0) C xt_u6 rfl (by decide) (xt_cl49 _ _) (by decide) tyX6 tyX6_ok nmX6 lkX6_74 rfl (tyX6_ok 0 (by decide)) rfl rfl (Nat.le_of_ble_eq_true rfl) rfl dX6_decoded_2 ?_
  refine xt_iload_n C dX6_decoded_5 rfl ?_
  refine xt_iconst (v := nI 0) C dX6_decoded_6 rfl ?_
  refine xt_bipush (v := nI 9) C dX6_decoded_7 (by decide) ?_
  refine xt_cS C ms_X6_in lkX6_81 ct_in rfl (by decide) rfl (Nat.le_of_ble_eq_true rfl) dX6_decoded_9 ?_
  refine xt_if_neB (tgt := 21) C dX6_decoded_12 (by decide) (fun c12 => ?_) (fun c12 => ?_)
  · exact absurd c12 hq
  · refine xt_aload_n C dX6_decoded_15 rfl ?_
    refine xt_iconst (v := nI 1) C dX6_decoded_16 rfl ?_
    refine xt_cV C mv_X6_raises lkX6_142 ct_mraises rfl (by decide) (xt_cl49 _ _) rfl (by decide) rfl (Nat.le_of_ble_eq_true rfl) dX6_decoded_17 ?_
    exact xt_iret C dX6_decoded_20 ⟨by decide, by decide⟩ ⟨rfl, xt_mr_x xt_mfr_rf⟩
set_option maxRecDepth 20000 in
set_option maxHeartbeats 2000000 in
theorem ct_mdecoded_p {c r sd lv bo : Nat} (hM : xt_Mp S c r sd lv bo) {n x y : Int32} (hq : nI 0 ≤ n ∧ n ≤ nI 9) (hbad : ¬ xt_pix c r x y) : xt_Ct E l yX6_decoded cX6_decoded 4 (some Jvm.ClassFile.FieldType.int) 4 84 0 0 [.ref (E.1 49), .int n, .int x, .int y] S (xt_Ep (some (.int (nI 0))) (xt_mr S 2)) := by
  refine xt_body (by decide +kernel) (xt_all rfl) (Nat.le_of_ble_eq_true rfl) (fun cx C hl9 => ?_)
  show xt_X E cx _ 0 0 0 [some (.ref (E.1 49)), some (.int n), some (.int x), some (.int y)] [] S
  have hM9 := hM
  obtain ⟨hc, hr, hs, hv, hb, b1, b2, b3, b4, b5, b6, b7⟩ := hM
  refine xt_aload_n C dX6_decoded_0 rfl ?_
  refine xt_iconst (v := nI 0) C dX6_decoded_1 rfl ?_
  refine xt_put (f := 0) C xt_u6 rfl (by decide) (xt_cl49 _ _) (by decide) tyX6 tyX6_ok nmX6 lkX6_74 rfl (tyX6_ok 0 (by decide)) rfl rfl (Nat.le_of_ble_eq_true rfl) rfl dX6_decoded_2 ?_
  refine xt_iload_n C dX6_decoded_5 rfl ?_
  refine xt_iconst (v := nI 0) C dX6_decoded_6 rfl ?_
  refine xt_bipush (v := nI 9) C dX6_decoded_7 (by decide) ?_
  refine xt_cS C ms_X6_in lkX6_81 ct_in rfl (by decide) rfl (Nat.le_of_ble_eq_true rfl) dX6_decoded_9 ?_
  refine xt_if_neB (tgt := 21) C dX6_decoded_12 (by decide) (fun c12 => ?_) (fun c12 => ?_)
  · refine xt_aload_n C dX6_decoded_21 rfl ?_
    refine xt_iload_n C dX6_decoded_22 rfl ?_
    refine xt_iload_n C dX6_decoded_23 rfl ?_
    refine xt_cV C mv_X6_isPixel lkX6_158 (ct_isPixel (by exact hM9)) rfl (by decide) (xt_cl49 _ _) rfl (by decide) rfl (Nat.le_of_ble_eq_true rfl) dX6_decoded_24 ?_
    refine xt_if_neB (tgt := 36) C dX6_decoded_27 (by decide) (fun c27 => ?_) (fun c27 => ?_)
    · exact absurd c27 hbad
    · refine xt_aload_n C dX6_decoded_30 rfl ?_
      refine xt_iconst (v := nI 2) C dX6_decoded_31 rfl ?_
      refine xt_cV C mv_X6_raises lkX6_142 ct_mraises rfl (by decide) (xt_cl49 _ _) rfl (by decide) rfl (Nat.le_of_ble_eq_true rfl) dX6_decoded_32 ?_
      exact xt_iret C dX6_decoded_35 ⟨by decide, by decide⟩ ⟨rfl, xt_mr_x xt_mfr_rf⟩
  · exact absurd hq c12
set_option maxRecDepth 20000 in
set_option maxHeartbeats 2000000 in
theorem ct_mworst_diff {c r sd lv bo : Nat} (hM : xt_Mp S c r sd lv bo) {t : Nat} (ht : t < xt_nt c r sd) {v k : Nat → Int32} (hvv : ∀ j, j < 256 → xt_mV S j = v j) (hkk : ∀ j, j < 256 → xt_mK S j = k j) (hvr : ∀ j, j < 256 → ∃ m, m ≤ 255 ∧ v j = nI m) (hk : ∀ j, j < 256 → k j = nI 0 ∨ k j = nI 1) {n : Nat} (hn9 : n ≤ 9) : xt_Ct E l yX6_worst cX6_worst 4 (some Jvm.ClassFile.FieldType.int) 4 87 0 0 [.ref (E.1 49), .int (nI n), .int (nI t), .int (nI 0)] S (xt_Ep (some (.int (xt_tW c r sd lv bo t n v k))) (xt_mr S 0)) := by
  refine xt_body (by decide +kernel) (xt_all rfl) (Nat.le_of_ble_eq_true rfl) (fun cx C hl9 => ?_)
  show xt_X E cx _ 0 0 0 [some (.ref (E.1 49)), some (.int (nI n)), some (.int (nI t)), some (.int (nI 0))] [] S
  have hM9 := hM
  obtain ⟨hc, hr, hs, hv, hb, b1, b2, b3, b4, b5, b6, b7⟩ := hM
  have hn := xt_nt_b ⟨b1, b2⟩ ⟨b3, b4⟩ b5
  have hT := xt_tile_b ⟨b1, b2⟩ ⟨b3, b4⟩ b5 ht
  have hdl : (xt_tD c r sd lv t) ≤ 3 := xt_dep_le.2
  have hk9 : ∀ j, j < 256 → xt_mK S j = nI 0 ∨ xt_mK S j = nI 1 := fun j hj => by rw [hkk j hj]; exact hk j hj
  refine xt_aload_n C dX6_worst_0 rfl ?_
  refine xt_iconst (v := nI 0) C dX6_worst_1 rfl ?_
  refine xt_put (f := 0) C xt_u6 rfl (by decide) (xt_cl49 _ _) (by decide) tyX6 tyX6_ok nmX6 lkX6_74 rfl (tyX6_ok 0 (by decide)) rfl rfl (Nat.le_of_ble_eq_true rfl) rfl dX6_worst_2 ?_
  refine xt_iload_n C dX6_worst_5 rfl ?_
  refine xt_iconst (v := nI 0) C dX6_worst_6 rfl ?_
  refine xt_bipush (v := nI 9) C dX6_worst_7 (by decide) ?_
  refine xt_cS C ms_X6_in lkX6_81 ct_in rfl (by decide) rfl (Nat.le_of_ble_eq_true rfl) dX6_worst_9 ?_
  refine xt_if_neB (tgt := 21) C dX6_worst_12 (by decide) (fun c12 => ?_) (fun c12 => ?_)
  · refine xt_aload_n C dX6_worst_21 rfl ?_
    refine xt_iload_n C dX6_worst_22 rfl ?_
    refine xt_cV C mv_X6_isTile lkX6_165 (ct_isTile (by exact hM9)) rfl (by decide) (xt_cl49 _ _) rfl (by decide) rfl (Nat.le_of_ble_eq_true rfl) dX6_worst_23 ?_
    refine xt_if_neB (tgt := 35) C dX6_worst_26 (by decide) (fun c26 => ?_) (fun c26 => ?_)
    · refine xt_aload_n C dX6_worst_35 rfl ?_
      refine xt_iload_n C dX6_worst_36 rfl ?_
      refine xt_cVpn C mv_X6_looks lkX6_169 (ct_looks (by exact hM9) ht (by exact hk9)) rfl (by decide) (xt_cl49 _ _) rfl (by decide) rfl (Nat.le_of_ble_eq_true rfl) dX6_worst_37 (fun S9 hq9 => ?_)
      obtain ⟨hfr, hL0⟩ := hq9
      have hL := xt_ML_c ⟨b1, b2⟩ ⟨b3, b4⟩ b5 ht hvv hkk hL0
      rename xt_St => T1
      have hMt := hL.1
      obtain ⟨m1, m2, m3, m4, g1, g2, g3, g4, g5, g6, g7⟩ := id hMt
      refine xt_iload_n C dX6_worst_40 rfl ?_
      refine xt_if_eqN (tgt := 50) C dX6_worst_41 (by decide) (by omega) (fun c41 => ?_) (fun c41 => ?_)
      · refine xt_aload_n C dX6_worst_50 rfl ?_
        refine xt_iload_n C dX6_worst_51 rfl ?_
        refine xt_cVpn C mv_X6_decodes lkX6_181 (ct_decodes (by exact xt_mfr_Mp hfr hM9) ht hL (xt_tA ⟨b1, b2⟩ ⟨b3, b4⟩ b5 ht hvr) hn9) rfl (by decide) (xt_cl49 _ _) rfl (by decide) rfl (Nat.le_of_ble_eq_true rfl) dX6_worst_52 (fun S9 hq9 => ?_)
        obtain ⟨hfr2, hL2, hJ⟩ := hq9
        have hfr3 := xt_mfr_tr hfr hfr2
        rename xt_St => T2
        refine xt_aload_n C dX6_worst_55 rfl ?_
        refine xt_cV C mv_X6_worstOf lkX6_217 (ct_worstOf (by exact xt_mfr_Mp hfr3 hM9) ht hL2 (by rw [(xt_mfr_v hfr3).1]; exact hvv) hJ) rfl (by decide) (xt_cl49 _ _) rfl (by decide) rfl (Nat.le_of_ble_eq_true rfl) dX6_worst_56 ?_
        exact xt_iret C dX6_worst_59 ⟨by decide, by decide⟩ ⟨rfl, xt_mr_0 hfr3⟩
      · exact absurd c41 (by decide)
    · exact absurd ⟨t, ht, rfl⟩ c26
  · exact absurd ⟨nI_pos' (by omega), nI_le hn9 (by omega)⟩ c12
set_option maxRecDepth 20000 in
set_option maxHeartbeats 2000000 in
theorem ct_mworst_q {n a q : Int32} (hq : ¬ (nI 0 ≤ n ∧ n ≤ nI 9)) : xt_Ct E l yX6_worst cX6_worst 4 (some Jvm.ClassFile.FieldType.int) 4 87 0 0 [.ref (E.1 49), .int n, .int a, .int q] S (xt_Ep (some (.int (nI 0))) (xt_mr S 1)) := by
  refine xt_body (by decide +kernel) (xt_all rfl) (Nat.le_of_ble_eq_true rfl) (fun cx C hl9 => ?_)
  show xt_X E cx _ 0 0 0 [some (.ref (E.1 49)), some (.int n), some (.int a), some (.int q)] [] S
  refine xt_aload_n C dX6_worst_0 rfl ?_
  refine xt_iconst (v := nI 0) C dX6_worst_1 rfl ?_
  refine xt_put (f := 0) C xt_u6 rfl (by decide) (xt_cl49 _ _) (by decide) tyX6 tyX6_ok nmX6 lkX6_74 rfl (tyX6_ok 0 (by decide)) rfl rfl (Nat.le_of_ble_eq_true rfl) rfl dX6_worst_2 ?_
  refine xt_iload_n C dX6_worst_5 rfl ?_
  refine xt_iconst (v := nI 0) C dX6_worst_6 rfl ?_
  refine xt_bipush (v := nI 9) C dX6_worst_7 (by decide) ?_
  refine xt_cS C ms_X6_in lkX6_81 ct_in rfl (by decide) rfl (Nat.le_of_ble_eq_true rfl) dX6_worst_9 ?_
  refine xt_if_neB (tgt := 21) C dX6_worst_12 (by decide) (fun c12 => ?_) (fun c12 => ?_)
  · exact absurd c12 hq
  · refine xt_aload_n C dX6_worst_15 rfl ?_
    refine xt_iconst (v := nI 1) C dX6_worst_16 rfl ?_
    refine xt_cV C mv_X6_raises lkX6_142 ct_mraises rfl (by decide) (xt_cl49 _ _) rfl (by decide) rfl (Nat.le_of_ble_eq_true rfl) dX6_worst_17 ?_
    exact xt_iret C dX6_worst_20 ⟨by decide, by decide⟩ ⟨rfl, xt_mr_x xt_mfr_rf⟩
set_option maxRecDepth 20000 in
set_option maxHeartbeats 2000000 in
theorem ct_mworst_t {c r sd lv bo : Nat} (hM : xt_Mp S c r sd lv bo) {n a q : Int32} (hq : nI 0 ≤ n ∧ n ≤ nI 9) (hbad : ¬ ∃ j, j < xt_nt c r sd ∧ a = nI j) : xt_Ct E l yX6_worst cX6_worst 4 (some Jvm.ClassFile.FieldType.int) 4 87 0 0 [.ref (E.1 49), .int n, .int a, .int q] S (xt_Ep (some (.int (nI 0))) (xt_mr S 2)) := by
  refine xt_body (by decide +kernel) (xt_all rfl) (Nat.le_of_ble_eq_true rfl) (fun cx C hl9 => ?_)
  show xt_X E cx _ 0 0 0 [some (.ref (E.1 49)), some (.int n), some (.int a), some (.int q)] [] S
  have hM9 := hM
  obtain ⟨hc, hr, hs, hv, hb, b1, b2, b3, b4, b5, b6, b7⟩ := hM
  refine xt_aload_n C dX6_worst_0 rfl ?_
  refine xt_iconst (v := nI 0) C dX6_worst_1 rfl ?_
  refine xt_put (f := 0) C xt_u6 rfl (by decide) (xt_cl49 _ _) (by decide) tyX6 tyX6_ok nmX6 lkX6_74 rfl (tyX6_ok 0 (by decide)) rfl rfl (Nat.le_of_ble_eq_true rfl) rfl dX6_worst_2 ?_
  refine xt_iload_n C dX6_worst_5 rfl ?_
  refine xt_iconst (v := nI 0) C dX6_worst_6 rfl ?_
  refine xt_bipush (v := nI 9) C dX6_worst_7 (by decide) ?_
  refine xt_cS C ms_X6_in lkX6_81 ct_in rfl (by decide) rfl (Nat.le_of_ble_eq_true rfl) dX6_worst_9 ?_
  refine xt_if_neB (tgt := 21) C dX6_worst_12 (by decide) (fun c12 => ?_) (fun c12 => ?_)
  · refine xt_aload_n C dX6_worst_21 rfl ?_
    refine xt_iload_n C dX6_worst_22 rfl ?_
    refine xt_cV C mv_X6_isTile lkX6_165 (ct_isTile (by exact hM9)) rfl (by decide) (xt_cl49 _ _) rfl (by decide) rfl (Nat.le_of_ble_eq_true rfl) dX6_worst_23 ?_
    refine xt_if_neB (tgt := 35) C dX6_worst_26 (by decide) (fun c26 => ?_) (fun c26 => ?_)
    · exact absurd c26 hbad
    · refine xt_aload_n C dX6_worst_29 rfl ?_
      refine xt_iconst (v := nI 2) C dX6_worst_30 rfl ?_
      refine xt_cV C mv_X6_raises lkX6_142 ct_mraises rfl (by decide) (xt_cl49 _ _) rfl (by decide) rfl (Nat.le_of_ble_eq_true rfl) dX6_worst_31 ?_
      exact xt_iret C dX6_worst_34 ⟨by decide, by decide⟩ ⟨rfl, xt_mr_x xt_mfr_rf⟩
  · exact absurd hq c12
set_option maxRecDepth 20000 in
set_option maxHeartbeats 2000000 in
theorem ct_mplanned {n t : Nat} (hn : S.1 49 13 = nI n) (ht : t < n) (hn64 : n ≤ 64) {z : Int32} (hz : S.2.1 55 t = z) : xt_Ct E l yX6_planned cX6_planned 2 (some Jvm.ClassFile.FieldType.int) 1 22 0 0 [.ref (E.1 49), .int (nI t)] S (xt_Ep (some (.int z)) (xt_mr S 0)) := by
  refine xt_body (by decide +kernel) (xt_all rfl) (Nat.le_of_ble_eq_true rfl) (fun cx C hl9 => ?_)
  show xt_X E cx _ 0 0 0 [some (.ref (E.1 49)), some (.int (nI t))] [] S
  refine xt_aload_n C dX6_planned_0 rfl ?_
  refine xt_iconst (v := nI 0) C dX6_planned_1 rfl ?_
  refine xt_put (f := 0) C xt_u6 rfl (by decide) (xt_cl49 _ _) (by decide) tyX6 tyX6_ok nmX6 lkX6_74 rfl (tyX6_ok 0 (by decide)) rfl rfl (Nat.le_of_ble_eq_true rfl) rfl dX6_planned_2 ?_
  refine xt_aload_n C dX6_planned_5 rfl ?_
  refine xt_get (f := 13) C xt_u6 rfl (by decide) (xt_cl49 _ _) (by decide) lkX6_29 (xt_vI (by exact hn)) dX6_planned_6 ?_
  refine xt_if_geN (tgt := 18) C dX6_planned_9 (by decide) (by omega) ?_
  refine xt_iload_n C dX6_planned_18 rfl ?_
  refine xt_iconst (v := nI 0) C dX6_planned_19 rfl ?_
  refine xt_aload_n C dX6_planned_20 rfl ?_
  refine xt_get (f := 13) C xt_u6 rfl (by decide) (xt_cl49 _ _) (by decide) lkX6_29 (xt_vI (by exact hn)) dX6_planned_21 ?_
  refine xt_iconst (v := nI 1) C dX6_planned_24 rfl ?_
  refine xt_isubN C dX6_planned_25 (by omega) ?_
  refine xt_cS C ms_X6_in lkX6_81 ct_in rfl (by decide) rfl (Nat.le_of_ble_eq_true rfl) dX6_planned_26 ?_
  refine xt_if_eqB (tgt := 41) C dX6_planned_29 (by decide) (fun c29 => ?_) (fun c29 => ?_)
  · exact absurd ⟨nI_pos' (by omega), nI_le (by omega) (by omega)⟩ c29
  · refine xt_aload_n C dX6_planned_32 rfl ?_
    refine xt_get (f := 14) C xt_u6 rfl (by decide) (xt_cl49 _ _) (by decide) lkX6_32 rfl dX6_planned_33 ?_
    refine xt_iload_n C dX6_planned_36 rfl ?_
    refine xt_ialdN C (by decide) (xt_cl55 _) (by omega) (by decide) (by exact hz) dX6_planned_37 ?_
    refine xt_goto (tgt := 46) C dX6_planned_38 (by decide) ?_
    exact xt_iret C dX6_planned_46 ⟨by decide, by decide⟩ ⟨rfl, xt_mr_0 xt_mfr_rf⟩
set_option maxRecDepth 20000 in
set_option maxHeartbeats 2000000 in
theorem ct_mplanned_n (hn : S.1 49 13 = -1) {a : Int32} : xt_Ct E l yX6_planned cX6_planned 2 (some Jvm.ClassFile.FieldType.int) 1 22 0 0 [.ref (E.1 49), .int a] S (xt_Ep (some (.int (nI 0))) (xt_mr S 1)) := by
  refine xt_body (by decide +kernel) (xt_all rfl) (Nat.le_of_ble_eq_true rfl) (fun cx C hl9 => ?_)
  show xt_X E cx _ 0 0 0 [some (.ref (E.1 49)), some (.int a)] [] S
  refine xt_aload_n C dX6_planned_0 rfl ?_
  refine xt_iconst (v := nI 0) C dX6_planned_1 rfl ?_
  refine xt_put (f := 0) C xt_u6 rfl (by decide) (xt_cl49 _ _) (by decide) tyX6 tyX6_ok nmX6 lkX6_74 rfl (tyX6_ok 0 (by decide)) rfl rfl (Nat.le_of_ble_eq_true rfl) rfl dX6_planned_2 ?_
  refine xt_aload_n C dX6_planned_5 rfl ?_
  refine xt_get (f := 13) C xt_u6 rfl (by decide) (xt_cl49 _ _) (by decide) lkX6_29 (xt_vI (by exact hn)) dX6_planned_6 ?_
  refine xt_if_ge (tgt := 18) C dX6_planned_9 (by decide) (fun c9 => ?_) (fun c9 => ?_)
  · exact absurd c9 (by decide)
  · refine xt_aload_n C dX6_planned_12 rfl ?_
    refine xt_iconst (v := nI 1) C dX6_planned_13 rfl ?_
    refine xt_cV C mv_X6_raises lkX6_142 ct_mraises rfl (by decide) (xt_cl49 _ _) rfl (by decide) rfl (Nat.le_of_ble_eq_true rfl) dX6_planned_14 ?_
    exact xt_iret C dX6_planned_17 ⟨by decide, by decide⟩ ⟨rfl, xt_mr_x xt_mfr_rf⟩
set_option maxRecDepth 20000 in
set_option maxHeartbeats 2000000 in
theorem ct_mplanned_t {n : Nat} (hn : S.1 49 13 = nI n) (hn0 : 0 < n) (hn64 : n ≤ 64) {a : Int32} (hbad : ¬ (nI 0 ≤ a ∧ a ≤ nI (n - 1))) : xt_Ct E l yX6_planned cX6_planned 2 (some Jvm.ClassFile.FieldType.int) 1 22 0 0 [.ref (E.1 49), .int a] S (xt_Ep (some (.int (nI 0))) (xt_mr S 2)) := by
  refine xt_body (by decide +kernel) (xt_all rfl) (Nat.le_of_ble_eq_true rfl) (fun cx C hl9 => ?_)
  show xt_X E cx _ 0 0 0 [some (.ref (E.1 49)), some (.int a)] [] S
  refine xt_aload_n C dX6_planned_0 rfl ?_
  refine xt_iconst (v := nI 0) C dX6_planned_1 rfl ?_
  refine xt_put (f := 0) C xt_u6 rfl (by decide) (xt_cl49 _ _) (by decide) tyX6 tyX6_ok nmX6 lkX6_74 rfl (tyX6_ok 0 (by decide)) rfl rfl (Nat.le_of_ble_eq_true rfl) rfl dX6_planned_2 ?_
  refine xt_aload_n C dX6_planned_5 rfl ?_
  refine xt_get (f := 13) C xt_u6 rfl (by decide) (xt_cl49 _ _) (by decide) lkX6_29 (xt_vI (by exact hn)) dX6_planned_6 ?_
  refine xt_if_geN (tgt := 18) C dX6_planned_9 (by decide) (by omega) ?_
  refine xt_iload_n C dX6_planned_18 rfl ?_
  refine xt_iconst (v := nI 0) C dX6_planned_19 rfl ?_
  refine xt_aload_n C dX6_planned_20 rfl ?_
  refine xt_get (f := 13) C xt_u6 rfl (by decide) (xt_cl49 _ _) (by decide) lkX6_29 (xt_vI (by exact hn)) dX6_planned_21 ?_
  refine xt_iconst (v := nI 1) C dX6_planned_24 rfl ?_
  refine xt_isubN C dX6_planned_25 (by omega) ?_
  refine xt_cS C ms_X6_in lkX6_81 ct_in rfl (by decide) rfl (Nat.le_of_ble_eq_true rfl) dX6_planned_26 ?_
  refine xt_if_eqB (tgt := 41) C dX6_planned_29 (by decide) (fun c29 => ?_) (fun c29 => ?_)
  · refine xt_aload_n C dX6_planned_41 rfl ?_
    refine xt_iconst (v := nI 2) C dX6_planned_42 rfl ?_
    refine xt_cV C mv_X6_raises lkX6_142 ct_mraises rfl (by decide) (xt_cl49 _ _) rfl (by decide) rfl (Nat.le_of_ble_eq_true rfl) dX6_planned_43 ?_
    exact xt_iret C dX6_planned_46 ⟨by decide, by decide⟩ ⟨rfl, xt_mr_x xt_mfr_rf⟩
  · exact absurd c29 hbad
set_option maxRecDepth 20000 in
set_option maxHeartbeats 2000000 in
theorem ct_mfault {n : Nat} (hn : S.1 49 10 = nI n) (h31 : n < 1000) : xt_Ct E l yX6_faultPosition cX6_faultPosition 1 (some Jvm.ClassFile.FieldType.int) 1 21 0 0 [.ref (E.1 49)] S (xt_Ep (some (.int (nI n))) (xt_mr S 0)) := by
  refine xt_body (by decide +kernel) (xt_all rfl) (Nat.le_of_ble_eq_true rfl) (fun cx C hl9 => ?_)
  show xt_X E cx _ 0 0 0 [some (.ref (E.1 49))] [] S
  refine xt_aload_n C dX6_faultPosition_0 rfl ?_
  refine xt_iconst (v := nI 0) C dX6_faultPosition_1 rfl ?_
  refine xt_put (f := 0) C xt_u6 rfl (by decide) (xt_cl49 _ _) (by decide) tyX6 tyX6_ok nmX6 lkX6_74 rfl (tyX6_ok 0 (by decide)) rfl rfl (Nat.le_of_ble_eq_true rfl) rfl dX6_faultPosition_2 ?_
  refine xt_aload_n C dX6_faultPosition_5 rfl ?_
  refine xt_get (f := 10) C xt_u6 rfl (by decide) (xt_cl49 _ _) (by decide) lkX6_25 (xt_vI (by exact hn)) dX6_faultPosition_6 ?_
  refine xt_if_geN (tgt := 20) C dX6_faultPosition_9 (by decide) (by omega) ?_
  refine xt_aload_n C dX6_faultPosition_20 rfl ?_
  refine xt_get (f := 10) C xt_u6 rfl (by decide) (xt_cl49 _ _) (by decide) lkX6_25 (xt_vI (by exact hn)) dX6_faultPosition_21 ?_
  exact xt_iret C dX6_faultPosition_24 ⟨by decide, by decide⟩ ⟨rfl, xt_mr_0 xt_mfr_rf⟩
set_option maxRecDepth 20000 in
set_option maxHeartbeats 2000000 in
theorem ct_mfault_n (hn : S.1 49 10 = -1) : xt_Ct E l yX6_faultPosition cX6_faultPosition 1 (some Jvm.ClassFile.FieldType.int) 1 21 0 0 [.ref (E.1 49)] S (xt_Ep (some (.int (nI 0))) (xt_mr S 1)) := by
  refine xt_body (by decide +kernel) (xt_all rfl) (Nat.le_of_ble_eq_true rfl) (fun cx C hl9 => ?_)
  show xt_X E cx _ 0 0 0 [some (.ref (E.1 49))] [] S
  refine xt_aload_n C dX6_faultPosition_0 rfl ?_
  refine xt_iconst (v := nI 0) C dX6_faultPosition_1 rfl ?_
  refine xt_put (f := 0) C xt_u6 rfl (by decide) (xt_cl49 _ _) (by decide) tyX6 tyX6_ok nmX6 lkX6_74 rfl (tyX6_ok 0 (by decide)) rfl rfl (Nat.le_of_ble_eq_true rfl) rfl dX6_faultPosition_2 ?_
  refine xt_aload_n C dX6_faultPosition_5 rfl ?_
  refine xt_get (f := 10) C xt_u6 rfl (by decide) (xt_cl49 _ _) (by decide) lkX6_25 (xt_vI (by exact hn)) dX6_faultPosition_6 ?_
  refine xt_if_ge (tgt := 20) C dX6_faultPosition_9 (by decide) (fun c9 => ?_) (fun c9 => ?_)
  · exact absurd c9 (by decide)
  · refine xt_aload_n C dX6_faultPosition_12 rfl ?_
    refine xt_iconst (v := nI 1) C dX6_faultPosition_13 rfl ?_
    refine xt_cV C mv_X6_raises lkX6_142 ct_mraises rfl (by decide) (xt_cl49 _ _) rfl (by decide) rfl (Nat.le_of_ble_eq_true rfl) dX6_faultPosition_14 ?_
    refine xt_goto (tgt := 24) C dX6_faultPosition_17 (by decide) ?_
    exact xt_iret C dX6_faultPosition_24 ⟨by decide, by decide⟩ ⟨rfl, xt_mr_x xt_mfr_rf⟩
set_option maxRecDepth 20000 in
set_option maxHeartbeats 2000000 in
theorem ct_mrefusal1 {n : Nat} (hn : S.1 49 11 = nI n) (hn0 : 0 < n) (h31 : n < 1000) : xt_Ct E l yX6_refusal cX6_refusal 2 (some Jvm.ClassFile.FieldType.int) 1 21 0 0 [.ref (E.1 49), .int (nI 1)] S (xt_Ep (some (.int (S.1 49 11))) (xt_mr S 0)) := by
  refine xt_body (by decide +kernel) (xt_all rfl) (Nat.le_of_ble_eq_true rfl) (fun cx C hl9 => ?_)
  show xt_X E cx _ 0 0 0 [some (.ref (E.1 49)), some (.int (nI 1))] [] S
  refine xt_aload_n C dX6_refusal_0 rfl ?_
  refine xt_iconst (v := nI 0) C dX6_refusal_1 rfl ?_
  refine xt_put (f := 0) C xt_u6 rfl (by decide) (xt_cl49 _ _) (by decide) tyX6 tyX6_ok nmX6 lkX6_74 rfl (tyX6_ok 0 (by decide)) rfl rfl (Nat.le_of_ble_eq_true rfl) rfl dX6_refusal_2 ?_
  refine xt_aload_n C dX6_refusal_5 rfl ?_
  refine xt_get (f := 11) C xt_u6 rfl (by decide) (xt_cl49 _ _) (by decide) lkX6_172 (xt_vI (by exact hn)) dX6_refusal_6 ?_
  refine xt_if_neN (tgt := 18) C dX6_refusal_9 (by decide) (by omega) (fun c9 => ?_) (fun c9 => ?_)
  · refine xt_iload_n C dX6_refusal_18 rfl ?_
    refine xt_if_eqN (tgt := 29) C dX6_refusal_19 (by decide) (by omega) (fun c19 => ?_) (fun c19 => ?_)
    · exact absurd c19 (by decide)
    · refine xt_aload_n C dX6_refusal_22 rfl ?_
      refine xt_get (f := 11) C xt_u6 rfl (by decide) (xt_cl49 _ _) (by decide) lkX6_172 (xt_vI (by exact hn)) dX6_refusal_23 ?_
      refine xt_goto (tgt := 33) C dX6_refusal_26 (by decide) ?_
      exact xt_iret C dX6_refusal_33 ⟨by decide, by decide⟩ ⟨by rw [hn], xt_mr_0 xt_mfr_rf⟩
  · exact absurd c9 (by omega)
set_option maxRecDepth 20000 in
set_option maxHeartbeats 2000000 in
theorem ct_mrefusal0 {n : Nat} (hn : S.1 49 11 = nI n) (hn0 : 0 < n) (h31 : n < 1000) : xt_Ct E l yX6_refusal cX6_refusal 2 (some Jvm.ClassFile.FieldType.int) 1 21 0 0 [.ref (E.1 49), .int (nI 0)] S (xt_Ep (some (.int (S.1 49 12))) (xt_mr S 0)) := by
  refine xt_body (by decide +kernel) (xt_all rfl) (Nat.le_of_ble_eq_true rfl) (fun cx C hl9 => ?_)
  show xt_X E cx _ 0 0 0 [some (.ref (E.1 49)), some (.int (nI 0))] [] S
  refine xt_aload_n C dX6_refusal_0 rfl ?_
  refine xt_iconst (v := nI 0) C dX6_refusal_1 rfl ?_
  refine xt_put (f := 0) C xt_u6 rfl (by decide) (xt_cl49 _ _) (by decide) tyX6 tyX6_ok nmX6 lkX6_74 rfl (tyX6_ok 0 (by decide)) rfl rfl (Nat.le_of_ble_eq_true rfl) rfl dX6_refusal_2 ?_
  refine xt_aload_n C dX6_refusal_5 rfl ?_
  refine xt_get (f := 11) C xt_u6 rfl (by decide) (xt_cl49 _ _) (by decide) lkX6_172 (xt_vI (by exact hn)) dX6_refusal_6 ?_
  refine xt_if_neN (tgt := 18) C dX6_refusal_9 (by decide) (by omega) (fun c9 => ?_) (fun c9 => ?_)
  · refine xt_iload_n C dX6_refusal_18 rfl ?_
    refine xt_if_eqN (tgt := 29) C dX6_refusal_19 (by decide) (by omega) (fun c19 => ?_) (fun c19 => ?_)
    · refine xt_aload_n C dX6_refusal_29 rfl ?_
      refine xt_get (f := 12) C xt_u6 rfl (by decide) (xt_cl49 _ _) (by decide) lkX6_175 rfl dX6_refusal_30 ?_
      exact xt_iret C dX6_refusal_33 ⟨by decide, by decide⟩ ⟨rfl, xt_mr_0 xt_mfr_rf⟩
    · exact absurd c19 (by decide)
  · exact absurd c9 (by omega)
set_option maxRecDepth 20000 in
set_option maxHeartbeats 2000000 in
theorem ct_mrefusal_n (hn : S.1 49 11 = nI 0) {q : Int32} : xt_Ct E l yX6_refusal cX6_refusal 2 (some Jvm.ClassFile.FieldType.int) 1 21 0 0 [.ref (E.1 49), .int q] S (xt_Ep (some (.int (nI 0))) (xt_mr S 1)) := by
  refine xt_body (by decide +kernel) (xt_all rfl) (Nat.le_of_ble_eq_true rfl) (fun cx C hl9 => ?_)
  show xt_X E cx _ 0 0 0 [some (.ref (E.1 49)), some (.int q)] [] S
  refine xt_aload_n C dX6_refusal_0 rfl ?_
  refine xt_iconst (v := nI 0) C dX6_refusal_1 rfl ?_
  refine xt_put (f := 0) C xt_u6 rfl (by decide) (xt_cl49 _ _) (by decide) tyX6 tyX6_ok nmX6 lkX6_74 rfl (tyX6_ok 0 (by decide)) rfl rfl (Nat.le_of_ble_eq_true rfl) rfl dX6_refusal_2 ?_
  refine xt_aload_n C dX6_refusal_5 rfl ?_
  refine xt_get (f := 11) C xt_u6 rfl (by decide) (xt_cl49 _ _) (by decide) lkX6_172 (xt_vI (by exact hn)) dX6_refusal_6 ?_
  refine xt_if_neN (tgt := 18) C dX6_refusal_9 (by decide) (by omega) (fun c9 => ?_) (fun c9 => ?_)
  · exact absurd c9 (by decide)
  · refine xt_aload_n C dX6_refusal_12 rfl ?_
    refine xt_iconst (v := nI 1) C dX6_refusal_13 rfl ?_
    refine xt_cV C mv_X6_raises lkX6_142 ct_mraises rfl (by decide) (xt_cl49 _ _) rfl (by decide) rfl (Nat.le_of_ble_eq_true rfl) dX6_refusal_14 ?_
    exact xt_iret C dX6_refusal_17 ⟨by decide, by decide⟩ ⟨rfl, xt_mr_x xt_mfr_rf⟩
set_option maxRecDepth 20000 in
set_option maxHeartbeats 2000000 in
theorem ct_mmasked {c r sd lv bo : Nat} (hM : xt_Mp S c r sd lv bo) {k : Nat → Int32} (hkk : ∀ j, j < 256 → xt_mK S j = k j) : xt_Ct E l yX6_masked cX6_masked 3 (some Jvm.ClassFile.FieldType.int) 1 20 0 0 [.ref (E.1 49)] S (xt_Eq (some (.int (xt_it (fun i s => s + k i) (c * r) 0))) S) := by
  refine xt_body (by decide +kernel) (xt_all rfl) (Nat.le_of_ble_eq_true rfl) (fun cx C hl9 => ?_)
  show xt_X E cx _ 0 0 0 [some (.ref (E.1 49)), none, none] [] S
  have hM9 := hM
  obtain ⟨hc, hr, hs, hv, hb, b1, b2, b3, b4, b5, b6, b7⟩ := hM
  have hcr := xt_cr b2 b4
  have loop : ∀ (d i : Nat), i ≤ (c * r) →  (c * r) + 1 ≤ i + d → xt_X E cx (xt_ZM E cx 0 0 (xt_Eq (some (.int (xt_it (fun i s => s + k i) (c * r) 0))) S)) 0 0 4 [some (.ref (E.1 49)), some (.int (xt_it (fun i s => s + k i) i 0)), some (.int (nI i))] [] S := by
    intro d
    induction d with
    | zero => intro i  h0i  h1i; exact absurd h1i (by omega)
    | succ d ih =>
      intro i  h0i  h1i
      refine xt_iload_n C dX6_masked_4 rfl ?_
      refine xt_aload_n C dX6_masked_5 rfl ?_
      refine xt_cV C mv_X6_columns lkX6_77 (ct_mcol (by exact hM9)) rfl (by decide) (xt_cl49 _ _) rfl (by decide) rfl (Nat.le_of_ble_eq_true rfl) dX6_masked_6 ?_
      refine xt_aload_n C dX6_masked_9 rfl ?_
      refine xt_cV C mv_X6_rows lkX6_85 (ct_mrow (by exact hM9)) rfl (by decide) (xt_cl49 _ _) rfl (by decide) rfl (Nat.le_of_ble_eq_true rfl) dX6_masked_10 ?_
      refine xt_imulN C dX6_masked_13 ?_
      refine xt_icmp_geN (tgt := 36) C dX6_masked_14 (by decide) (by omega) (by omega) (fun c14 => ?_) (fun c14 => ?_)
      · refine xt_iload_n C dX6_masked_36 rfl ?_
        exact xt_iret C dX6_masked_37 ⟨by decide, by decide⟩ (xt_qI (by rw [show i = c * r by omega]))
      · refine xt_iload_n C dX6_masked_17 rfl ?_
        refine xt_aload_n C dX6_masked_18 rfl ?_
        refine xt_get (f := 1) C xt_u6 rfl (by decide) (xt_cl49 _ _) (by decide) lkX6_9 rfl dX6_masked_19 ?_
        refine xt_sipush (v := nI 261) C dX6_masked_22 (by decide) ?_
        refine xt_iload_n C dX6_masked_25 rfl ?_
        refine xt_iaddN C dX6_masked_26 ?_
        refine xt_ialdN C (by decide) (xt_cl50 _) (by omega) (by decide) (hkk i (by omega)) dX6_masked_27 ?_
        refine xt_iadd C dX6_masked_28 ?_
        refine xt_istore_n (lo' := [_, _, _]) C dX6_masked_29 (Nat.le_of_ble_eq_true rfl) rfl rfl ?_
        refine xt_iincN (z := 1) (lo' := [_, _, _]) C dX6_masked_30 rfl rfl rfl ?_
        refine xt_goto (tgt := 4) C dX6_masked_33 (by decide) ?_
        exact xt_fg (by repeat' constructor) (ih (i + 1) (by omega) (by omega))
  refine xt_iconst (v := nI 0) C dX6_masked_0 rfl ?_
  refine xt_istore_n (lo' := [_, _, _]) C dX6_masked_1 (Nat.le_of_ble_eq_true rfl) rfl rfl ?_
  refine xt_iconst (v := nI 0) C dX6_masked_2 rfl ?_
  refine xt_istore_n (lo' := [_, _, _]) C dX6_masked_3 (Nat.le_of_ble_eq_true rfl) rfl rfl ?_
  exact xt_fg (by repeat' constructor) (loop (c * r + 1) 0 (by omega) (by omega))
set_option maxRecDepth 20000 in
set_option maxHeartbeats 2000000 in
theorem ct_mnumber {c r sd lv bo : Nat} (hM : xt_Mp S c r sd lv bo) {v k : Nat → Int32} (hvv : ∀ j, j < 256 → xt_mV S j = v j) (hkk : ∀ j, j < 256 → xt_mK S j = k j) {j : Nat} (hj : j < 10) : xt_Ct E l yX6_number cX6_number 4 (some Jvm.ClassFile.FieldType.int) 3 60 0 0 [.ref (E.1 49), .int (nI j)] S (xt_Ep (some (.int (xt_numF v k c r sd lv bo (S.1 49 3) (S.1 49 8) j))) (xt_mr S 0)) := by
  refine xt_body (by decide +kernel) (xt_all rfl) (Nat.le_of_ble_eq_true rfl) (fun cx C hl9 => ?_)
  show xt_X E cx _ 0 0 0 [some (.ref (E.1 49)), some (.int (nI j)), none, none] [] S
  have hM9 := hM
  obtain ⟨hc, hr, hs, hv, hb, b1, b2, b3, b4, b5, b6, b7⟩ := hM
  have hcr := xt_cr b2 b4
  match j, hj with
  | 0, _ =>
    refine xt_aload_n C dX6_number_0 rfl ?_
    refine xt_iconst (v := nI 0) C dX6_number_1 rfl ?_
    refine xt_put (f := 0) C xt_u6 rfl (by decide) (xt_cl49 _ _) (by decide) tyX6 tyX6_ok nmX6 lkX6_74 rfl (tyX6_ok 0 (by decide)) rfl rfl (Nat.le_of_ble_eq_true rfl) rfl dX6_number_2 ?_
    refine xt_iload_n C dX6_number_5 rfl ?_
    refine xt_tabIn (tgt := 60) C dX6_number_6 (by decide +kernel) (by decide +kernel) rfl (by decide) ?_
    refine xt_aload_n C dX6_number_60 rfl ?_
    refine xt_get (f := 1) C xt_u6 rfl (by decide) (xt_cl49 _ _) (by decide) lkX6_9 rfl dX6_number_61 ?_
    refine xt_iload_n C dX6_number_64 rfl ?_
    refine xt_ialdN C (by decide) (xt_cl50 _) (by decide) (by decide) (by exact hc) dX6_number_65 ?_
    exact xt_iret C dX6_number_66 ⟨by decide, by decide⟩ ⟨rfl, xt_mr_0 xt_mfr_rf⟩
  | 1, _ =>
    refine xt_aload_n C dX6_number_0 rfl ?_
    refine xt_iconst (v := nI 0) C dX6_number_1 rfl ?_
    refine xt_put (f := 0) C xt_u6 rfl (by decide) (xt_cl49 _ _) (by decide) tyX6 tyX6_ok nmX6 lkX6_74 rfl (tyX6_ok 0 (by decide)) rfl rfl (Nat.le_of_ble_eq_true rfl) rfl dX6_number_2 ?_
    refine xt_iload_n C dX6_number_5 rfl ?_
    refine xt_tabIn (tgt := 60) C dX6_number_6 (by decide +kernel) (by decide +kernel) rfl (by decide) ?_
    refine xt_aload_n C dX6_number_60 rfl ?_
    refine xt_get (f := 1) C xt_u6 rfl (by decide) (xt_cl49 _ _) (by decide) lkX6_9 rfl dX6_number_61 ?_
    refine xt_iload_n C dX6_number_64 rfl ?_
    refine xt_ialdN C (by decide) (xt_cl50 _) (by decide) (by decide) (by exact hr) dX6_number_65 ?_
    exact xt_iret C dX6_number_66 ⟨by decide, by decide⟩ ⟨rfl, xt_mr_0 xt_mfr_rf⟩
  | 2, _ =>
    refine xt_aload_n C dX6_number_0 rfl ?_
    refine xt_iconst (v := nI 0) C dX6_number_1 rfl ?_
    refine xt_put (f := 0) C xt_u6 rfl (by decide) (xt_cl49 _ _) (by decide) tyX6 tyX6_ok nmX6 lkX6_74 rfl (tyX6_ok 0 (by decide)) rfl rfl (Nat.le_of_ble_eq_true rfl) rfl dX6_number_2 ?_
    refine xt_iload_n C dX6_number_5 rfl ?_
    refine xt_tabIn (tgt := 60) C dX6_number_6 (by decide +kernel) (by decide +kernel) rfl (by decide) ?_
    refine xt_aload_n C dX6_number_60 rfl ?_
    refine xt_get (f := 1) C xt_u6 rfl (by decide) (xt_cl49 _ _) (by decide) lkX6_9 rfl dX6_number_61 ?_
    refine xt_iload_n C dX6_number_64 rfl ?_
    refine xt_ialdN C (by decide) (xt_cl50 _) (by decide) (by decide) (by exact hs) dX6_number_65 ?_
    exact xt_iret C dX6_number_66 ⟨by decide, by decide⟩ ⟨rfl, xt_mr_0 xt_mfr_rf⟩
  | 3, _ =>
    refine xt_aload_n C dX6_number_0 rfl ?_
    refine xt_iconst (v := nI 0) C dX6_number_1 rfl ?_
    refine xt_put (f := 0) C xt_u6 rfl (by decide) (xt_cl49 _ _) (by decide) tyX6 tyX6_ok nmX6 lkX6_74 rfl (tyX6_ok 0 (by decide)) rfl rfl (Nat.le_of_ble_eq_true rfl) rfl dX6_number_2 ?_
    refine xt_iload_n C dX6_number_5 rfl ?_
    refine xt_tabIn (tgt := 60) C dX6_number_6 (by decide +kernel) (by decide +kernel) rfl (by decide) ?_
    refine xt_aload_n C dX6_number_60 rfl ?_
    refine xt_get (f := 1) C xt_u6 rfl (by decide) (xt_cl49 _ _) (by decide) lkX6_9 rfl dX6_number_61 ?_
    refine xt_iload_n C dX6_number_64 rfl ?_
    refine xt_ialdN C (by decide) (xt_cl50 _) (by decide) (by decide) (by exact hv) dX6_number_65 ?_
    exact xt_iret C dX6_number_66 ⟨by decide, by decide⟩ ⟨rfl, xt_mr_0 xt_mfr_rf⟩
  | 4, _ =>
    refine xt_aload_n C dX6_number_0 rfl ?_
    refine xt_iconst (v := nI 0) C dX6_number_1 rfl ?_
    refine xt_put (f := 0) C xt_u6 rfl (by decide) (xt_cl49 _ _) (by decide) tyX6 tyX6_ok nmX6 lkX6_74 rfl (tyX6_ok 0 (by decide)) rfl rfl (Nat.le_of_ble_eq_true rfl) rfl dX6_number_2 ?_
    refine xt_iload_n C dX6_number_5 rfl ?_
    refine xt_tabIn (tgt := 60) C dX6_number_6 (by decide +kernel) (by decide +kernel) rfl (by decide) ?_
    refine xt_aload_n C dX6_number_60 rfl ?_
    refine xt_get (f := 1) C xt_u6 rfl (by decide) (xt_cl49 _ _) (by decide) lkX6_9 rfl dX6_number_61 ?_
    refine xt_iload_n C dX6_number_64 rfl ?_
    refine xt_ialdN C (by decide) (xt_cl50 _) (by decide) (by decide) (by exact hb) dX6_number_65 ?_
    exact xt_iret C dX6_number_66 ⟨by decide, by decide⟩ ⟨rfl, xt_mr_0 xt_mfr_rf⟩
  | 5, _ =>
    refine xt_aload_n C dX6_number_0 rfl ?_
    refine xt_iconst (v := nI 0) C dX6_number_1 rfl ?_
    refine xt_put (f := 0) C xt_u6 rfl (by decide) (xt_cl49 _ _) (by decide) tyX6 tyX6_ok nmX6 lkX6_74 rfl (tyX6_ok 0 (by decide)) rfl rfl (Nat.le_of_ble_eq_true rfl) rfl dX6_number_2 ?_
    refine xt_iload_n C dX6_number_5 rfl ?_
    refine xt_tabIn (tgt := 67) C dX6_number_6 (by decide +kernel) (by decide +kernel) rfl (by decide) ?_
    refine xt_aload_n C dX6_number_67 rfl ?_
    refine xt_cV C mv_X6_tiles lkX6_91 (ct_mtiles (by exact hM9)) rfl (by decide) (xt_cl49 _ _) rfl (by decide) rfl (Nat.le_of_ble_eq_true rfl) dX6_number_68 ?_
    exact xt_iret C dX6_number_71 ⟨by decide, by decide⟩ ⟨rfl, xt_mr_0 xt_mfr_rf⟩
  | 6, _ =>
    refine xt_aload_n C dX6_number_0 rfl ?_
    refine xt_iconst (v := nI 0) C dX6_number_1 rfl ?_
    refine xt_put (f := 0) C xt_u6 rfl (by decide) (xt_cl49 _ _) (by decide) tyX6 tyX6_ok nmX6 lkX6_74 rfl (tyX6_ok 0 (by decide)) rfl rfl (Nat.le_of_ble_eq_true rfl) rfl dX6_number_2 ?_
    refine xt_iload_n C dX6_number_5 rfl ?_
    refine xt_tabIn (tgt := 72) C dX6_number_6 (by decide +kernel) (by decide +kernel) rfl (by decide) ?_
    refine xt_aload_n C dX6_number_72 rfl ?_
    refine xt_cV C mv_X6_masked lkX6_152 (ct_mmasked (by exact hM9) (by exact hkk)) rfl (by decide) (xt_cl49 _ _) rfl (by decide) rfl (Nat.le_of_ble_eq_true rfl) dX6_number_73 ?_
    exact xt_iret C dX6_number_76 ⟨by decide, by decide⟩ ⟨rfl, xt_mr_0 xt_mfr_rf⟩
  | 7, _ =>
    refine xt_aload_n C dX6_number_0 rfl ?_
    refine xt_iconst (v := nI 0) C dX6_number_1 rfl ?_
    refine xt_put (f := 0) C xt_u6 rfl (by decide) (xt_cl49 _ _) (by decide) tyX6 tyX6_ok nmX6 lkX6_74 rfl (tyX6_ok 0 (by decide)) rfl rfl (Nat.le_of_ble_eq_true rfl) rfl dX6_number_2 ?_
    refine xt_iload_n C dX6_number_5 rfl ?_
    refine xt_tabIn (tgt := 77) C dX6_number_6 (by decide +kernel) (by decide +kernel) rfl (by decide) ?_
    refine xt_iconst (v := nI 0) C dX6_number_77 rfl ?_
    refine xt_istore_n (lo' := [_, _, _, _]) C dX6_number_78 (Nat.le_of_ble_eq_true rfl) rfl rfl ?_
    refine xt_iconst (v := nI 0) C dX6_number_79 rfl ?_
    refine xt_istore_n (lo' := [_, _, _, _]) C dX6_number_80 (Nat.le_of_ble_eq_true rfl) rfl rfl ?_
    have loop : ∀ (d i : Nat), i ≤ (c * r) →  (c * r) + 1 ≤ i + d → xt_X E cx (xt_ZM E cx 0 0 (xt_Ep (some (.int (xt_numF v k c r sd lv bo (S.1 49 3) (S.1 49 8) 7))) (xt_mr S 0))) 0 0 81 [some (.ref (E.1 49)), some (.int (nI 7)), some (.int (xt_it (fun i s => s + v i) i 0)), some (.int (nI i))] [] (xt_sN S 49 0 (nI 0)) := by
      intro d
      induction d with
      | zero => intro i  h0i  h1i; exact absurd h1i (by omega)
      | succ d ih =>
        intro i  h0i  h1i
        refine xt_iload_n C dX6_number_81 rfl ?_
        refine xt_aload_n C dX6_number_82 rfl ?_
        refine xt_cV C mv_X6_columns lkX6_77 (ct_mcol (by exact hM9)) rfl (by decide) (xt_cl49 _ _) rfl (by decide) rfl (Nat.le_of_ble_eq_true rfl) dX6_number_83 ?_
        refine xt_aload_n C dX6_number_86 rfl ?_
        refine xt_cV C mv_X6_rows lkX6_85 (ct_mrow (by exact hM9)) rfl (by decide) (xt_cl49 _ _) rfl (by decide) rfl (Nat.le_of_ble_eq_true rfl) dX6_number_87 ?_
        refine xt_imulN C dX6_number_90 ?_
        refine xt_icmp_geN (tgt := 111) C dX6_number_91 (by decide) (by omega) (by omega) (fun c91 => ?_) (fun c91 => ?_)
        · refine xt_iload_n C dX6_number_111 rfl ?_
          exact xt_iret C dX6_number_112 ⟨by decide, by decide⟩ ⟨by rw [show i = c * r by omega]; rfl, xt_mr_0 xt_mfr_rf⟩
        · refine xt_iload_n C dX6_number_94 rfl ?_
          refine xt_aload_n C dX6_number_95 rfl ?_
          refine xt_get (f := 1) C xt_u6 rfl (by decide) (xt_cl49 _ _) (by decide) lkX6_9 rfl dX6_number_96 ?_
          refine xt_iconst (v := nI 5) C dX6_number_99 rfl ?_
          refine xt_iload_n C dX6_number_100 rfl ?_
          refine xt_iaddN C dX6_number_101 ?_
          refine xt_ialdN C (by decide) (xt_cl50 _) (by omega) (by decide) (by exact hvv i (by omega)) dX6_number_102 ?_
          refine xt_iadd C dX6_number_103 ?_
          refine xt_istore_n (lo' := [_, _, _, _]) C dX6_number_104 (Nat.le_of_ble_eq_true rfl) rfl rfl ?_
          refine xt_iincN (z := 1) (lo' := [_, _, _, _]) C dX6_number_105 rfl rfl rfl ?_
          refine xt_goto (tgt := 81) C dX6_number_108 (by decide) ?_
          exact xt_fg (by repeat' constructor) (ih (i + 1) (by omega) (by omega))
    exact xt_fg (by repeat' constructor) (loop (c * r + 1) 0 (by omega) (by omega))
  | 8, _ =>
    refine xt_aload_n C dX6_number_0 rfl ?_
    refine xt_iconst (v := nI 0) C dX6_number_1 rfl ?_
    refine xt_put (f := 0) C xt_u6 rfl (by decide) (xt_cl49 _ _) (by decide) tyX6 tyX6_ok nmX6 lkX6_74 rfl (tyX6_ok 0 (by decide)) rfl rfl (Nat.le_of_ble_eq_true rfl) rfl dX6_number_2 ?_
    refine xt_iload_n C dX6_number_5 rfl ?_
    refine xt_tabIn (tgt := 113) C dX6_number_6 (by decide +kernel) (by decide +kernel) rfl (by decide) ?_
    refine xt_aload_n C dX6_number_113 rfl ?_
    refine xt_get (f := 3) C xt_u6 rfl (by decide) (xt_cl49 _ _) (by decide) lkX6_94 rfl dX6_number_114 ?_
    exact xt_iret C dX6_number_117 ⟨by decide, by decide⟩ ⟨rfl, xt_mr_0 xt_mfr_rf⟩
  | 9, _ =>
    refine xt_aload_n C dX6_number_0 rfl ?_
    refine xt_iconst (v := nI 0) C dX6_number_1 rfl ?_
    refine xt_put (f := 0) C xt_u6 rfl (by decide) (xt_cl49 _ _) (by decide) tyX6 tyX6_ok nmX6 lkX6_74 rfl (tyX6_ok 0 (by decide)) rfl rfl (Nat.le_of_ble_eq_true rfl) rfl dX6_number_2 ?_
    refine xt_iload_n C dX6_number_5 rfl ?_
    refine xt_tabIn (tgt := 118) C dX6_number_6 (by decide +kernel) (by decide +kernel) rfl (by decide) ?_
    refine xt_aload_n C dX6_number_118 rfl ?_
    refine xt_get (f := 8) C xt_u6 rfl (by decide) (xt_cl49 _ _) (by decide) lkX6_155 rfl dX6_number_119 ?_
    exact xt_iret C dX6_number_122 ⟨by decide, by decide⟩ ⟨rfl, xt_mr_0 xt_mfr_rf⟩
set_option maxRecDepth 20000 in
set_option maxHeartbeats 2000000 in
theorem ct_mnumber_b {a : Int32} (hj : a.toInt < 0 ∨ 9 < a.toInt) : xt_Ct E l yX6_number cX6_number 4 (some Jvm.ClassFile.FieldType.int) 3 60 0 0 [.ref (E.1 49), .int a] S (xt_Ep (some (.int (nI 0))) (xt_mr S 1)) := by
  refine xt_body (by decide +kernel) (xt_all rfl) (Nat.le_of_ble_eq_true rfl) (fun cx C hl9 => ?_)
  show xt_X E cx _ 0 0 0 [some (.ref (E.1 49)), some (.int a), none, none] [] S
  refine xt_aload_n C dX6_number_0 rfl ?_
  refine xt_iconst (v := nI 0) C dX6_number_1 rfl ?_
  refine xt_put (f := 0) C xt_u6 rfl (by decide) (xt_cl49 _ _) (by decide) tyX6 tyX6_ok nmX6 lkX6_74 rfl (tyX6_ok 0 (by decide)) rfl rfl (Nat.le_of_ble_eq_true rfl) rfl dX6_number_2 ?_
  refine xt_iload_n C dX6_number_5 rfl ?_
  refine xt_tabOut (tgt := 123) C dX6_number_6 hj (by decide) ?_
  refine xt_aload_n C dX6_number_123 rfl ?_
  refine xt_iconst (v := nI 1) C dX6_number_124 rfl ?_
  refine xt_cV C mv_X6_raises lkX6_142 ct_mraises rfl (by decide) (xt_cl49 _ _) rfl (by decide) rfl (Nat.le_of_ble_eq_true rfl) dX6_number_125 ?_
  exact xt_iret C dX6_number_128 ⟨by decide, by decide⟩ ⟨rfl, xt_mr_x xt_mfr_rf⟩
end XM11
