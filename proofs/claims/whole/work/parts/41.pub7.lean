/-! THE TILER: meanSquare, plan, planned, faultPosition, refusal -/
section XC33
variable {E : xt_Ev} {l : Launch} {S : xt_St}
noncomputable def xt_tQ (c r sd pl pb t n : Nat) (v k : Nat → Int32) : Int32 := xt_S2 (fun x y => xt_abs (xt_tJ c r sd pl pb t n v k (8 * y + x) - xt_tV c sd t v (8 * y + x)) * xt_abs (xt_tJ c r sd pl pb t n v k (8 * y + x) - xt_tV c sd t v (8 * y + x))) (xt_gw c sd t) (xt_gh c r sd t)
theorem xt_TL_Q {c r sd pl pb t n : Nat} {v k : Nat → Int32} (h : xt_TL S c r sd pl pb t v k) : xt_S2 (fun x y => xt_abs (xt_DJ (S.2.1 35) (xt_tM c r sd pl t k) (xt_gw c sd t) (xt_gh c r sd t) (xt_tD c r sd pl t) pb n (8 * y + x) - S.2.1 34 (8 * y + x)) * xt_abs (xt_DJ (S.2.1 35) (xt_tM c r sd pl t k) (xt_gw c sd t) (xt_gh c r sd t) (xt_tD c r sd pl t) pb n (8 * y + x) - S.2.1 34 (8 * y + x))) (xt_gw c sd t) (xt_gh c r sd t) = xt_tQ c r sd pl pb t n v k := by
  have hw := h.1.2.2.2.2.2.2.1
  unfold xt_tQ
  refine xt_S2_c (fun y x hy hx => ?_)
  have hp : xt_in (xt_gw c sd t) (xt_gh c r sd t) (8 * y + x) := ⟨by omega, by omega⟩
  rw [xt_TL_J h _ hp, (xt_TL_c h _ hp).2]
/-- the tiles' sums of squares, one behind another -/
noncomputable def xt_sq (c r sd pl pb n : Nat) (v k : Nat → Int32) (m : Nat) : Int32 := xt_it (fun t s => s + xt_tQ c r sd pl pb t n v k) m 0
/-- a step of a plan: the tile that gets a layer; what stands then -/
def xt_gt9 (n : Nat) (W B : Nat → Nat → Int32) (q : (Nat → Nat) × Int32) : Option Nat := (xt_it (xt_nx q.1 (fun t => W t (q.1 t)) (fun t => B t (q.1 t)) q.2) n (none, 0)).1
def xt_gs (n : Nat) (W B : Nat → Nat → Int32) (q : (Nat → Nat) × Int32) : (Nat → Nat) × Int32 := match xt_gt9 n W B q with
  | none => q
  | some t => (fun i => if i = t then q.1 t + 1 else q.1 i, q.2 - B t (q.1 t))
def xt_gr (n : Nat) (W B : Nat → Nat → Int32) (left : Int32) (k : Nat) : (Nat → Nat) × Int32 := xt_it (fun _ q => xt_gs n W B q) k (fun _ => 0, left)
theorem xt_nx_some {ly : Nat → Nat} {df cs : Nat → Int32} {left : Int32} {t : Nat} : ∀ n, (xt_it (xt_nx ly df cs left) n (none, 0)).1 = some t → t < n ∧ ly t < 9 ∧ ¬ left < cs t := by
  intro n
  induction n with
  | zero => intro h; cases h
  | succ n ih =>
    intro h
    simp only [xt_it] at h
    by_cases z : ly n < 9 ∧ ¬ left < cs n ∧ (xt_it (xt_nx ly df cs left) n (none, 0)).2 < df n
    · rw [xt_nx1 z] at h
      cases h
      exact ⟨by omega, z.1, z.2.1⟩
    · rw [xt_nx0 z] at h
      have h9 := ih h
      exact ⟨by omega, h9.2⟩
theorem xt_nx_c {ly : Nat → Nat} {df cs df' cs' : Nat → Int32} {left : Int32} {n : Nat} (h : ∀ t, t < n → df t = df' t ∧ cs t = cs' t) : xt_it (xt_nx ly df cs left) n (none, 0) = xt_it (xt_nx ly df' cs' left) n (none, 0) :=
  xt_it_c (fun t s ht => by unfold xt_nx; rw [(h t ht).1, (h t ht).2])
theorem xt_gs0 {n : Nat} {W B : Nat → Nat → Int32} {q : (Nat → Nat) × Int32} (h : xt_gt9 n W B q = none) : xt_gs n W B q = q := by unfold xt_gs; rw [h]
theorem xt_gs1 {n : Nat} {W B : Nat → Nat → Int32} {q : (Nat → Nat) × Int32} {t : Nat} (h : xt_gt9 n W B q = some t) : xt_gs n W B q = (fun i => if i = t then q.1 t + 1 else q.1 i, q.2 - B t (q.1 t)) := by unfold xt_gs; rw [h]
theorem xt_gr_e {n : Nat} {W B : Nat → Nat → Int32} {left : Int32} {k : Nat} (h : xt_gt9 n W B (xt_gr n W B left k) = none) : ∀ m, k ≤ m → xt_gr n W B left m = xt_gr n W B left k := by
  intro m
  induction m with
  | zero => intro hm; rw [show k = 0 by omega]
  | succ m ih =>
    intro hm
    by_cases e : k = m + 1
    · rw [e]
    · show xt_gs n W B (xt_gr n W B left m) = _
      rw [ih (by omega), xt_gs0 h]
theorem xt_gr_b {n : Nat} {W B : Nat → Nat → Int32} {left : Int32} : ∀ k t, (xt_gr n W B left k).1 t ≤ 9 := by
  intro k
  induction k with
  | zero => intro t; exact Nat.zero_le _
  | succ k ih =>
    intro t
    show (xt_gs n W B (xt_gr n W B left k)).1 t ≤ 9
    cases h : xt_gt9 n W B (xt_gr n W B left k) with
    | none => rw [xt_gs0 h]; exact ih t
    | some u =>
      rw [xt_gs1 h]
      have h9 := (xt_nx_some n h).2.1
      show (if t = u then _ else _) ≤ 9
      split
      · omega
      · exact ih t
/-- the plan at work: T is the state, n the tiles, ly their layers; what is known of the first m tiles' differences and costs -/
def xt_pln (S T : xt_St) (n : Nat) (ly : Nat → Nat) (m : Nat) (W B : Nat → Nat → Int32) : Prop := (∀ i f, i ≠ 33 → i ≠ 42 → T.1 i f = S.1 i f) ∧ (∀ i, (i < 34 ∨ 45 < i ∨ i = 42) → T.2.1 i = S.2.1 i) ∧ T.2.2 = S.2.2 ∧ T.1 42 0 = nI n ∧ (∀ t, t < 64 → T.2.1 43 t = nI (ly t) ∧ ly t ≤ 9) ∧ ∀ t, t < m → T.2.1 44 t = W t (ly t) ∧ T.2.1 45 t = B t (ly t)
theorem xt_pln_P {T : xt_St} {n m : Nat} {ly : Nat → Nat} {W B : Nat → Nat → Int32} {c r sd pl pb : Nat} (h : xt_pln S T n ly m W B) (hP : xt_Pic S 1 c r sd pl pb) : xt_Pic T 1 c r sd pl pb := by
  unfold xt_Pic at hP ⊢
  rw [h.1 1 0 (by decide) (by decide), h.1 1 1 (by decide) (by decide), h.1 1 2 (by decide) (by decide), h.1 1 3 (by decide) (by decide), h.1 1 4 (by decide) (by decide)]
  exact hP
/-- a tile weighed -/
theorem xt_pln_w {T U : xt_St} {n m m' t : Nat} {ly : Nat → Nat} {W B : Nat → Nat → Int32} (h : xt_pln S T n ly m W B) (hU : xt_fr T U) (hm : ∀ j, j < m' → j < m ∨ j = t) :
    xt_pln S (xt_sA (xt_sA U 44 (upd (T.2.1 44) t (W t (ly t)))) 45 (upd (T.2.1 45) t (B t (ly t)))) n ly m' W B := by
  obtain ⟨h1, h2, h3, h4, h5, h6⟩ := h
  refine ⟨fun i f a b => (hU.1 i f a).trans (h1 i f a b), fun i hi => ?_, hU.2.2.trans h3, (hU.1 42 0 (by decide)).trans h4, fun j hj => ?_, fun j hj => ?_⟩
  · rw [xt_sA_n (by omega), xt_sA_n (by omega), hU.2.1 i (by omega)]
    exact h2 i hi
  · rw [xt_sA_n (by decide), xt_sA_n (by decide), hU.2.1 43 (by omega)]
    exact h5 j hj
  · rw [xt_sA_n (by decide), xt_sA_s, xt_sA_s]
    by_cases e : j = t
    · rw [e]; exact ⟨xt_up_s, xt_up_s⟩
    · rw [xt_up_n e, xt_up_n e]
      exact h6 j ((hm j hj).resolve_right e)
/-- a layer more for a tile -/
theorem xt_pln_l {T : xt_St} {n m t : Nat} {ly : Nat → Nat} {W B : Nat → Nat → Int32} (h : xt_pln S T n ly m W B) (ht : ly t < 9) :
    xt_pln S (xt_sA T 43 (upd (T.2.1 43) t (nI (ly t + 1)))) n (fun i => if i = t then ly t + 1 else ly i) 0 W B := by
  obtain ⟨h1, h2, h3, h4, h5, h6⟩ := h
  refine ⟨h1, fun i hi => ?_, h3, h4, fun j hj => ?_, fun j hj => absurd hj (Nat.not_lt_zero _)⟩
  · rw [xt_sA_n (by omega)]; exact h2 i hi
  · rw [xt_sA_s]
    by_cases e : j = t
    · rw [e, xt_up_s]; simp; omega
    · rw [xt_up_n e]; dsimp only; rw [if_neg e]; exact h5 j hj
theorem xt_pln_l2 {T : xt_St} {n t : Nat} {ly : Nat → Nat} {W B : Nat → Nat → Int32} (h : xt_pln S T n ly n W B) {U : xt_St} (ht : ly t < 9) (hU : xt_fr (xt_sA T 43 (upd (T.2.1 43) t (nI (ly t + 1)))) U) :
    xt_pln S (xt_sA (xt_sA U 44 (upd (T.2.1 44) t (W t (ly t + 1)))) 45 (upd (T.2.1 45) t (B t (ly t + 1)))) n (fun i => if i = t then ly t + 1 else ly i) n W B := by
  have g := xt_pln_w (m' := 0) (t := t) (xt_pln_l h ht) hU (fun j hj => absurd hj (Nat.not_lt_zero _))
  have e1 : (xt_sA T 43 (upd (T.2.1 43) t (nI (ly t + 1)))).2.1 44 = T.2.1 44 := xt_sA_n (by decide)
  have e2 : (xt_sA T 43 (upd (T.2.1 43) t (nI (ly t + 1)))).2.1 45 = T.2.1 45 := xt_sA_n (by decide)
  rw [e1, e2] at g
  simp only [if_pos] at g
  obtain ⟨g1, g2, g3, g4, g5, -⟩ := g
  refine ⟨g1, g2, g3, g4, g5, fun j hj => ?_⟩
  rw [xt_sA_n (by decide), xt_sA_s, xt_sA_s]
  by_cases e : j = t
  · rw [e]; dsimp only; rw [if_pos rfl]; exact ⟨xt_up_s, xt_up_s⟩
  · rw [xt_up_n e, xt_up_n e]; dsimp only; rw [if_neg e]
    exact h.2.2.2.2.2 j hj
set_option maxRecDepth 20000 in
set_option maxHeartbeats 2000000 in
theorem ct_meanSquare_ok {QX : String → xt_St → Prop} {c r sd pl pb : Nat} (hP : xt_Pic S 1 c r sd pl pb) (hk : ∀ j, j < 256 → S.2.1 3 j = nI 0 ∨ S.2.1 3 j = nI 1) {n : Nat} (hn9 : n ≤ 9) : xt_CtX E l yX5_meanSquare cX5_meanSquare 5 (some Jvm.ClassFile.FieldType.double) 7 153 1 6 [.ref (E.1 0), .int (nI n)] S (xt_Ep (some (.double (FP.ddiv (FP.i2d (xt_sq c r sd pl pb n (S.2.1 2) (S.2.1 3) (xt_nt c r sd))) (FP.i2d (nI (c * r)))))) (fun S9 => xt_fr S S9)) QX := by
  refine xt_bodyX (by decide +kernel) (xt_all rfl) (Nat.le_of_ble_eq_true rfl) (fun cx C hl9 hx9 => ?_)
  show xt_X E cx _ 0 0 0 [some (.ref (E.1 0)), some (.int (nI n)), none, none, none] [] S
  have hP9 := hP
  obtain ⟨hc, hr, hs, hv, hb, b1, b2, b3, b4, b5, b6, b7⟩ := hP
  have hnt := xt_nt_b ⟨b1, b2⟩ ⟨b3, b4⟩ b5
  have hpx : 4 ≤ c * r ∧ c * r ≤ 256 := ⟨Nat.mul_le_mul b1 b3, Nat.mul_le_mul b2 b4⟩
  have loop : ∀ (d t : Nat) (T : xt_St), t ≤ (xt_nt c r sd) → (xt_fr S T) → (xt_nt c r sd) + 1 ≤ t + d → xt_X E cx (xt_ZX E cx 1 6 (xt_Ep (some (.double (FP.ddiv (FP.i2d (xt_sq c r sd pl pb n (S.2.1 2) (S.2.1 3) (xt_nt c r sd))) (FP.i2d (nI (c * r)))))) (fun S9 => xt_fr S S9)) QX) 0 0 33 [some (.ref (E.1 0)), some (.int (nI n)), some (.int (xt_sq c r sd pl pb n (S.2.1 2) (S.2.1 3) t)), some (.int (nI (xt_nt c r sd))), some (.int (nI t))] [] T := by
    intro d
    induction d with
    | zero => intro t T h0t hfT h1t; exact absurd h1t (by omega)
    | succ d ih =>
      intro t T h0t hfT h1t
      have hP8 := xt_fr_Pic hfT hP9
      have hT2 : T.2.1 2 = S.2.1 2 := hfT.2.1 2 (Or.inl (by decide))
      have hT3 : T.2.1 3 = S.2.1 3 := hfT.2.1 3 (Or.inl (by decide))
      refine xt_iload C dX5_meanSquare_33 rfl ?_
      refine xt_iload_n C dX5_meanSquare_35 rfl ?_
      refine xt_icmp_geN (tgt := 69) C dX5_meanSquare_36 (by decide) (by omega) (by omega) (fun c36 => ?_) (fun ht => ?_)
      · refine xt_aload_n C dX5_meanSquare_69 rfl ?_
        refine xt_get (f := 0) C xt_u5 rfl (by decide) (xt_cl0 _ _) (by decide) lkX5_10 rfl dX5_meanSquare_70 ?_
        refine xt_getN (f := 0) C xt_u1 rfl (by decide) (xt_cl1 _ _) (by decide) lkX5_97 (xt_vI (hP8.1)) dX5_meanSquare_73 ?_
        refine xt_aload_n C dX5_meanSquare_76 rfl ?_
        refine xt_get (f := 0) C xt_u5 rfl (by decide) (xt_cl0 _ _) (by decide) lkX5_10 rfl dX5_meanSquare_77 ?_
        refine xt_getN (f := 1) C xt_u1 rfl (by decide) (xt_cl1 _ _) (by decide) lkX5_100 (xt_vI (hP8.2.1)) dX5_meanSquare_80 ?_
        refine xt_imulN C dX5_meanSquare_83 ?_
        refine xt_istore (lo' := [_, _, _, _, _]) C dX5_meanSquare_84 (Nat.le_of_ble_eq_true rfl) rfl rfl ?_
        refine xt_iload C dX5_meanSquare_86 rfl ?_
        refine xt_iconst (v := nI 1) C dX5_meanSquare_88 rfl ?_
        refine xt_icmp_geN (tgt := 96) C dX5_meanSquare_89 (by decide) (by omega) (by omega) (fun c89 => ?_) (fun c89 => ?_)
        · refine xt_iload_n C dX5_meanSquare_96 rfl ?_
          refine xt_i2d C dX5_meanSquare_97 ?_
          refine xt_iload C dX5_meanSquare_98 rfl ?_
          refine xt_i2d C dX5_meanSquare_100 ?_
          refine xt_ddiv C dX5_meanSquare_101 (xt_fn64 (by omega) (by omega)) ?_
          refine xt_ofM ?_
          exact xt_dret C dX5_meanSquare_102 ⟨by decide, by decide⟩ ⟨by rw [show t = xt_nt c r sd by omega], hfT⟩
        · exact absurd c89 (by omega)
      · refine xt_aload_n C dX5_meanSquare_39 rfl ?_
        refine xt_get (f := 4) C xt_u5 rfl (by decide) (xt_cl0 _ _) (by decide) lkX5_33 rfl dX5_meanSquare_40 ?_
        refine xt_aload_n C dX5_meanSquare_43 rfl ?_
        refine xt_get (f := 0) C xt_u5 rfl (by decide) (xt_cl0 _ _) (by decide) lkX5_10 rfl dX5_meanSquare_44 ?_
        refine xt_iload C dX5_meanSquare_47 rfl ?_
        refine xt_cVNpn C mv_X4_load lkX5_170 (ct_load (xt_fr_Pic hfT hP9) ht (by rw [hT3]; exact hk)) rfl (by decide) (xt_cl33 _ _) rfl (by decide) rfl (Nat.le_of_ble_eq_true rfl) dX5_meanSquare_49 (fun S9 hq9 => ?_)
        obtain ⟨hfr0, hTL0⟩ := hq9
        have hTL : xt_TL S9 c r sd pl pb t (T.2.1 2) (T.2.1 3) := hTL0
        rw [hT2, hT3] at hTL
        have hfr := xt_fr_tr hfT hfr0
        rename xt_St => T1
        refine xt_iload_n C dX5_meanSquare_52 rfl ?_
        refine xt_aload_n C dX5_meanSquare_53 rfl ?_
        refine xt_get (f := 4) C xt_u5 rfl (by decide) (xt_cl0 _ _) (by decide) lkX5_33 rfl dX5_meanSquare_54 ?_
        refine xt_iload_n C dX5_meanSquare_57 rfl ?_
        refine xt_cVNp C mv_X4_sumOfSquares lkX5_279 (ct_squares (by exact xt_TL_n hTL) (by exact xt_TL_m hTL) hn9) rfl (by decide) (xt_cl33 _ _) rfl (by decide) rfl (Nat.le_of_ble_eq_true rfl) dX5_meanSquare_58 (fun S9 hq9 => ?_)
        obtain ⟨g9, f9, rfl⟩ := hq9
        rw [xt_TL_Q hTL]
        refine xt_iadd C dX5_meanSquare_61 ?_
        refine xt_istore_n (lo' := [_, _, _, _, _]) C dX5_meanSquare_62 (Nat.le_of_ble_eq_true rfl) rfl rfl ?_
        refine xt_iincN (z := 1) (lo' := [_, _, _, _, _]) C dX5_meanSquare_63 rfl rfl rfl ?_
        refine xt_goto (tgt := 33) C dX5_meanSquare_66 (by decide) ?_
        exact xt_fg (by repeat' constructor) (ih (t + 1) (xt_sA (xt_sA T1 41 g9) 40 f9) (by omega) (xt_fr_A (by omega) (xt_fr_A (by omega) hfr)) (by omega))
  refine xt_iload_n C dX5_meanSquare_0 rfl ?_
  refine xt_iconst (v := nI 0) C dX5_meanSquare_1 rfl ?_
  refine xt_bipush (v := nI 9) C dX5_meanSquare_2 (by decide) ?_
  refine xt_cS C ms_X5_isBetween lkX5_61 ct_between rfl (by decide) rfl (Nat.le_of_ble_eq_true rfl) dX5_meanSquare_4 ?_
  refine xt_if_neB (tgt := 20) C dX5_meanSquare_7 (by decide) (fun c7 => ?_) (fun c7 => ?_)
  · refine xt_iconst (v := nI 0) C dX5_meanSquare_20 rfl ?_
    refine xt_istore_n (lo' := [_, _, _, _, _]) C dX5_meanSquare_21 (Nat.le_of_ble_eq_true rfl) rfl rfl ?_
    refine xt_aload_n C dX5_meanSquare_22 rfl ?_
    refine xt_get (f := 0) C xt_u5 rfl (by decide) (xt_cl0 _ _) (by decide) lkX5_10 rfl dX5_meanSquare_23 ?_
    refine xt_cVN C mv_X1_tileTotal lkX5_80 (ct_total hP9) rfl (by decide) (xt_cl1 _ _) rfl (by decide) rfl (Nat.le_of_ble_eq_true rfl) dX5_meanSquare_26 ?_
    refine xt_istore_n (lo' := [_, _, _, _, _]) C dX5_meanSquare_29 (Nat.le_of_ble_eq_true rfl) rfl rfl ?_
    refine xt_iconst (v := nI 0) C dX5_meanSquare_30 rfl ?_
    refine xt_istore (lo' := [_, _, _, _, _]) C dX5_meanSquare_31 (Nat.le_of_ble_eq_true rfl) rfl rfl ?_
    exact xt_fg (by repeat' constructor) (loop (xt_nt c r sd + 1) 0 S (by omega) xt_fr_rf (by omega))
  · exact absurd ⟨nI_pos' (by omega), nI_le hn9 (by omega)⟩ c7
set_option maxRecDepth 20000 in
set_option maxHeartbeats 2000000 in
theorem ct_meanSquare_bad {Q : Option Value → xt_St → Prop} (hst : l.stackTraces = false) {n : Int32} (hn : ¬ (nI 0 ≤ n ∧ n ≤ nI 9)) : xt_CtX E l yX5_meanSquare cX5_meanSquare 5 (some Jvm.ClassFile.FieldType.double) 7 153 1 6 [.ref (E.1 0), .int n] S Q (xt_Ex "java/lang/IllegalArgumentException" S) := by
  refine xt_bodyX (by decide +kernel) (xt_all rfl) (Nat.le_of_ble_eq_true rfl) (fun cx C hl9 hx9 => ?_)
  show xt_X E cx _ 0 0 0 [some (.ref (E.1 0)), some (.int n), none, none, none] [] S
  refine xt_iload_n C dX5_meanSquare_0 rfl ?_
  refine xt_iconst (v := nI 0) C dX5_meanSquare_1 rfl ?_
  refine xt_bipush (v := nI 9) C dX5_meanSquare_2 (by decide) ?_
  refine xt_cS C ms_X5_isBetween lkX5_61 ct_between rfl (by decide) rfl (Nat.le_of_ble_eq_true rfl) dX5_meanSquare_4 ?_
  refine xt_if_neB (tgt := 20) C dX5_meanSquare_7 (by decide) (fun c7 => ?_) (fun c7 => ?_)
  · exact absurd c7 hn
  · exact xt_throwS (i := 12) C (by rw [hl9]; exact hst) hx9 xw_65 rfl dX5_meanSquare_10 dX5_meanSquare_13 dX5_meanSquare_14 dX5_meanSquare_16 dX5_meanSquare_19 rfl ⟨by decide, by decide, by decide, by decide⟩ (by decide) ⟨by decide, by decide⟩ ⟨rfl, rfl⟩
set_option maxRecDepth 20000 in
set_option maxHeartbeats 2000000 in
theorem ct_plan_ok {QX : String → xt_St → Prop} {c r sd pl pb : Nat} (hP : xt_Pic S 1 c r sd pl pb) (hk : ∀ j, j < 256 → S.2.1 3 j = nI 0 ∨ S.2.1 3 j = nI 1) {bg : Nat} (hbg : bg ≤ 9999) : xt_CtX E l yX5_plan cX5_plan 5 (some Jvm.ClassFile.FieldType.int) 7 174 1 6 [.ref (E.1 0), .int (nI bg)] S (xt_Ep (some (.int (xt_gr (xt_nt c r sd) (fun t j => xt_tW c r sd pl pb t j (S.2.1 2) (S.2.1 3)) (fun t j => xt_tB c r sd pl pb t (nI j) (S.2.1 2) (S.2.1 3)) (nI bg) 576).2)) (fun S9 => ∃ m, xt_pln S S9 (xt_nt c r sd) (xt_gr (xt_nt c r sd) (fun t j => xt_tW c r sd pl pb t j (S.2.1 2) (S.2.1 3)) (fun t j => xt_tB c r sd pl pb t (nI j) (S.2.1 2) (S.2.1 3)) (nI bg) 576).1 m (fun t j => xt_tW c r sd pl pb t j (S.2.1 2) (S.2.1 3)) (fun t j => xt_tB c r sd pl pb t (nI j) (S.2.1 2) (S.2.1 3)))) QX := by
  refine xt_bodyX (by decide +kernel) (xt_all rfl) (Nat.le_of_ble_eq_true rfl) (fun cx C hl9 hx9 => ?_)
  show xt_X E cx _ 0 0 0 [some (.ref (E.1 0)), some (.int (nI bg)), none, none, none] [] S
  have hP9 := hP
  obtain ⟨hc, hr, hs, hv, hb, b1, b2, b3, b4, b5, b6, b7⟩ := hP
  have hnt := xt_nt_b ⟨b1, b2⟩ ⟨b3, b4⟩ b5
  have loop2 : ∀ (d i : Nat) (T : xt_St), i ≤ 576 → (xt_pln S T (xt_nt c r sd) (xt_gr (xt_nt c r sd) (fun t j => xt_tW c r sd pl pb t j (S.2.1 2) (S.2.1 3)) (fun t j => xt_tB c r sd pl pb t (nI j) (S.2.1 2) (S.2.1 3)) (nI bg) i).1 (xt_nt c r sd) (fun t j => xt_tW c r sd pl pb t j (S.2.1 2) (S.2.1 3)) (fun t j => xt_tB c r sd pl pb t (nI j) (S.2.1 2) (S.2.1 3))) → 576 + 1 ≤ i + d → xt_X E cx (xt_ZX E cx 1 6 (xt_Ep (some (.int (xt_gr (xt_nt c r sd) (fun t j => xt_tW c r sd pl pb t j (S.2.1 2) (S.2.1 3)) (fun t j => xt_tB c r sd pl pb t (nI j) (S.2.1 2) (S.2.1 3)) (nI bg) 576).2)) (fun S9 => ∃ m, xt_pln S S9 (xt_nt c r sd) (xt_gr (xt_nt c r sd) (fun t j => xt_tW c r sd pl pb t j (S.2.1 2) (S.2.1 3)) (fun t j => xt_tB c r sd pl pb t (nI j) (S.2.1 2) (S.2.1 3)) (nI bg) 576).1 m (fun t j => xt_tW c r sd pl pb t j (S.2.1 2) (S.2.1 3)) (fun t j => xt_tB c r sd pl pb t (nI j) (S.2.1 2) (S.2.1 3)))) QX) 0 0 64 [some (.ref (E.1 0)), some (.int (nI bg)), some (.int (xt_gr (xt_nt c r sd) (fun t j => xt_tW c r sd pl pb t j (S.2.1 2) (S.2.1 3)) (fun t j => xt_tB c r sd pl pb t (nI j) (S.2.1 2) (S.2.1 3)) (nI bg) i).2), some (.int (nI i)), none] [] T := by
    intro d
    induction d with
    | zero => intro i T h0i hpl h1i; exact absurd h1i (by omega)
    | succ d ih =>
      intro i T h0i hpl h1i
      have hP8 := xt_pln_P hpl hP9
      have hT2 : T.2.1 2 = S.2.1 2 := hpl.2.1 2 (Or.inl (by decide))
      have hT3 : T.2.1 3 = S.2.1 3 := hpl.2.1 3 (Or.inl (by decide))
      have hp42 := hpl.2.2.2.1
      refine xt_iload_n C dX5_plan_64 rfl ?_
      refine xt_sipush (v := nI 576) C dX5_plan_65 (by decide) ?_
      refine xt_icmp_geN (tgt := 142) C dX5_plan_68 (by decide) (by omega) (by omega) (fun c68 => ?_) (fun c68 => ?_)
      · have hi9 : i = 576 := by omega
        subst hi9
        refine xt_iload_n C dX5_plan_142 rfl ?_
        refine xt_ofM ?_
        refine xt_iret C dX5_plan_143 ⟨by decide, by decide⟩ ?_
        first
        | exact ⟨rfl, _, hpl⟩
        | (rw [← xt_gr_e hno 576 (by omega)] at hpl ⊢
           exact ⟨rfl, _, hpl⟩)
      · refine xt_aload_n C dX5_plan_71 rfl ?_
        refine xt_get (f := 5) C xt_u5 rfl (by decide) (xt_cl0 _ _) (by decide) lkX5_40 rfl dX5_plan_72 ?_
        refine xt_iload_n C dX5_plan_75 rfl ?_
        refine xt_cVN C mv_X2_nextTile lkX5_293 (ct_nextTile hp42 (by omega) (ly := (xt_gr (xt_nt c r sd) (fun t j => xt_tW c r sd pl pb t j (S.2.1 2) (S.2.1 3)) (fun t j => xt_tB c r sd pl pb t (nI j) (S.2.1 2) (S.2.1 3)) (nI bg) i).1) (fun t ht => hpl.2.2.2.2.1 t (by omega))) rfl (by decide) (xt_cl42 _ _) rfl (by decide) rfl (Nat.le_of_ble_eq_true rfl) dX5_plan_76 ?_
        have hnx : (xt_it (xt_nx (xt_gr (xt_nt c r sd) (fun t j => xt_tW c r sd pl pb t j (S.2.1 2) (S.2.1 3)) (fun t j => xt_tB c r sd pl pb t (nI j) (S.2.1 2) (S.2.1 3)) (nI bg) i).1 (T.2.1 44) (T.2.1 45) (xt_gr (xt_nt c r sd) (fun t j => xt_tW c r sd pl pb t j (S.2.1 2) (S.2.1 3)) (fun t j => xt_tB c r sd pl pb t (nI j) (S.2.1 2) (S.2.1 3)) (nI bg) i).2) (xt_nt c r sd) (none, 0)).1 = xt_gt9 (xt_nt c r sd) (fun t j => xt_tW c r sd pl pb t j (S.2.1 2) (S.2.1 3)) (fun t j => xt_tB c r sd pl pb t (nI j) (S.2.1 2) (S.2.1 3)) (xt_gr (xt_nt c r sd) (fun t j => xt_tW c r sd pl pb t j (S.2.1 2) (S.2.1 3)) (fun t j => xt_tB c r sd pl pb t (nI j) (S.2.1 2) (S.2.1 3)) (nI bg) i) := congrArg Prod.fst (xt_nx_c (fun t ht => hpl.2.2.2.2.2 t ht))
        rw [hnx]
        refine xt_istore (lo' := [_, _, _, _, _]) C dX5_plan_79 (Nat.le_of_ble_eq_true rfl) rfl rfl ?_
        refine xt_iload C dX5_plan_81 rfl ?_
        refine xt_if_ge (tgt := 89) C dX5_plan_83 (by decide) (fun c83 => ?_) (fun c83 => ?_)
        · obtain ⟨t, htt⟩ := xt_oI_pos (fun z => absurd c83 (Int32.not_le.mpr z))
          obtain ⟨ht, hl9, hc9⟩ := xt_nx_some _ htt
          rw [htt, show xt_oI (some t) = nI t from rfl]
          have ht64 : t < 64 := by omega
          refine xt_iload_n C dX5_plan_89 rfl ?_
          refine xt_aload_n C dX5_plan_90 rfl ?_
          refine xt_get (f := 5) C xt_u5 rfl (by decide) (xt_cl0 _ _) (by decide) lkX5_40 rfl dX5_plan_91 ?_
          refine xt_getN (f := 3) C xt_u2 rfl (by decide) (xt_cl42 _ _) (by decide) lkX5_296 rfl dX5_plan_94 ?_
          refine xt_iload C dX5_plan_97 rfl ?_
          refine xt_cS C ms_X5_at lkX5_145 (ct_at (by decide) (xt_cl45 _) (by decide) ht64 (hpl.2.2.2.2.2 t ht).2) rfl (by decide) rfl (Nat.le_of_ble_eq_true rfl) dX5_plan_99 ?_
          refine xt_isub C dX5_plan_102 ?_
          refine xt_istore_n (lo' := [_, _, _, _, _]) C dX5_plan_103 (Nat.le_of_ble_eq_true rfl) rfl rfl ?_
          refine xt_aload_n C dX5_plan_104 rfl ?_
          refine xt_get (f := 5) C xt_u5 rfl (by decide) (xt_cl0 _ _) (by decide) lkX5_40 rfl dX5_plan_105 ?_
          refine xt_getN (f := 1) C xt_u2 rfl (by decide) (xt_cl42 _ _) (by decide) lkX5_299 rfl dX5_plan_108 ?_
          refine xt_iload C dX5_plan_111 rfl ?_
          refine xt_aload_n C dX5_plan_113 rfl ?_
          refine xt_get (f := 5) C xt_u5 rfl (by decide) (xt_cl0 _ _) (by decide) lkX5_40 rfl dX5_plan_114 ?_
          refine xt_getN (f := 1) C xt_u2 rfl (by decide) (xt_cl42 _ _) (by decide) lkX5_299 rfl dX5_plan_117 ?_
          refine xt_iload C dX5_plan_120 rfl ?_
          refine xt_cS C ms_X5_at lkX5_145 (ct_at (by decide) (xt_cl43 _) (by decide) ht64 (hpl.2.2.2.2.1 t ht64).1) rfl (by decide) rfl (Nat.le_of_ble_eq_true rfl) dX5_plan_122 ?_
          refine xt_iconst (v := nI 1) C dX5_plan_125 rfl ?_
          refine xt_iaddN C dX5_plan_126 ?_
          refine xt_cSn C ms_X5_put lkX5_149 (ct_put (by decide) (xt_cl43 _) (by decide) ht64) rfl (by decide) rfl (Nat.le_of_ble_eq_true rfl) dX5_plan_127 ?_
          have hpl8 := xt_pln_l (t := t) hpl hl9
          have hP7 := xt_pln_P hpl8 hP9
          have hk7 := hpl8.2.1 3 (Or.inl (by decide))
          have hk2 := hpl8.2.1 2 (Or.inl (by decide))
          have hly := (hpl8.2.2.2.2.1 t ht64).1
          dsimp only at hly
          rw [if_pos rfl] at hly
          refine xt_aload_n C dX5_plan_130 rfl ?_
          refine xt_iload C dX5_plan_131 rfl ?_
          refine xt_cVpn C mv_X5_weigh lkX5_290 (ct_weigh hP7 ht (by rw [hk7]; exact hk) hly (by omega)) rfl (by decide) (xt_cl0 _ _) rfl (by decide) rfl (Nat.le_of_ble_eq_true rfl) dX5_plan_133 (fun S9 hq9 => ?_)
          obtain ⟨U, hU, rfl⟩ := hq9
          rw [hk2, hk7]
          have hpl9 := xt_pln_l2 (t := t) hpl hl9 hU
          have hgs : (xt_gr (xt_nt c r sd) (fun t j => xt_tW c r sd pl pb t j (S.2.1 2) (S.2.1 3)) (fun t j => xt_tB c r sd pl pb t (nI j) (S.2.1 2) (S.2.1 3)) (nI bg) (i + 1)) = (fun i9 => if i9 = t then (xt_gr (xt_nt c r sd) (fun t j => xt_tW c r sd pl pb t j (S.2.1 2) (S.2.1 3)) (fun t j => xt_tB c r sd pl pb t (nI j) (S.2.1 2) (S.2.1 3)) (nI bg) i).1 t + 1 else (xt_gr (xt_nt c r sd) (fun t j => xt_tW c r sd pl pb t j (S.2.1 2) (S.2.1 3)) (fun t j => xt_tB c r sd pl pb t (nI j) (S.2.1 2) (S.2.1 3)) (nI bg) i).1 i9, (xt_gr (xt_nt c r sd) (fun t j => xt_tW c r sd pl pb t j (S.2.1 2) (S.2.1 3)) (fun t j => xt_tB c r sd pl pb t (nI j) (S.2.1 2) (S.2.1 3)) (nI bg) i).2 - (fun t j => xt_tB c r sd pl pb t (nI j) (S.2.1 2) (S.2.1 3)) t ((xt_gr (xt_nt c r sd) (fun t j => xt_tW c r sd pl pb t j (S.2.1 2) (S.2.1 3)) (fun t j => xt_tB c r sd pl pb t (nI j) (S.2.1 2) (S.2.1 3)) (nI bg) i).1 t)) := xt_gs1 htt
          refine xt_iincN (z := 1) (lo' := [_, _, _, _, _]) C dX5_plan_136 rfl rfl rfl ?_
          refine xt_goto (tgt := 64) C dX5_plan_139 (by decide) ?_
          have h9 := ih (i + 1) _ (by omega) (by rw [hgs]; exact hpl9) (by omega)
          rw [hgs] at h9
          exact xt_fg (by repeat' constructor) h9
        · have hno := xt_oI_neg (Int32.not_le.mp c83) (fun q hq => by have := (xt_nx_some _ hq).1; omega)
          refine xt_goto (tgt := 142) C dX5_plan_86 (by decide) ?_
          refine xt_iload_n C dX5_plan_142 rfl ?_
          refine xt_ofM ?_
          refine xt_iret C dX5_plan_143 ⟨by decide, by decide⟩ ?_
          first
          | exact ⟨rfl, _, hpl⟩
          | (rw [← xt_gr_e hno 576 (by omega)] at hpl ⊢
             exact ⟨rfl, _, hpl⟩)
  have loop1 : ∀ (d t : Nat) (T : xt_St), t ≤ (xt_nt c r sd) → (xt_pln S T (xt_nt c r sd) (fun _ => 0) t (fun t j => xt_tW c r sd pl pb t j (S.2.1 2) (S.2.1 3)) (fun t j => xt_tB c r sd pl pb t (nI j) (S.2.1 2) (S.2.1 3))) → (xt_nt c r sd) + 1 ≤ t + d → xt_X E cx (xt_ZX E cx 1 6 (xt_Ep (some (.int (xt_gr (xt_nt c r sd) (fun t j => xt_tW c r sd pl pb t j (S.2.1 2) (S.2.1 3)) (fun t j => xt_tB c r sd pl pb t (nI j) (S.2.1 2) (S.2.1 3)) (nI bg) 576).2)) (fun S9 => ∃ m, xt_pln S S9 (xt_nt c r sd) (xt_gr (xt_nt c r sd) (fun t j => xt_tW c r sd pl pb t j (S.2.1 2) (S.2.1 3)) (fun t j => xt_tB c r sd pl pb t (nI j) (S.2.1 2) (S.2.1 3)) (nI bg) 576).1 m (fun t j => xt_tW c r sd pl pb t j (S.2.1 2) (S.2.1 3)) (fun t j => xt_tB c r sd pl pb t (nI j) (S.2.1 2) (S.2.1 3)))) QX) 0 0 38 [some (.ref (E.1 0)), some (.int (nI bg)), some (.int (nI t)), none, none] [] T := by
    intro d
    induction d with
    | zero => intro t T h0t hpl h1t; exact absurd h1t (by omega)
    | succ d ih =>
      intro t T h0t hpl h1t
      have hP8 := xt_pln_P hpl hP9
      have hT2 : T.2.1 2 = S.2.1 2 := hpl.2.1 2 (Or.inl (by decide))
      have hT3 : T.2.1 3 = S.2.1 3 := hpl.2.1 3 (Or.inl (by decide))
      have hp42 := hpl.2.2.2.1
      refine xt_iload_n C dX5_plan_38 rfl ?_
      refine xt_aload_n C dX5_plan_39 rfl ?_
      refine xt_get (f := 5) C xt_u5 rfl (by decide) (xt_cl0 _ _) (by decide) lkX5_40 rfl dX5_plan_40 ?_
      refine xt_getN (f := 0) C xt_u2 rfl (by decide) (xt_cl42 _ _) (by decide) lkX5_287 (xt_vI hp42) dX5_plan_43 ?_
      refine xt_icmp_geN (tgt := 60) C dX5_plan_46 (by decide) (by omega) (by omega) (fun c46 => ?_) (fun ht => ?_)
      · refine xt_iload_n C dX5_plan_60 rfl ?_
        refine xt_istore_n (lo' := [_, _, _, _, _]) C dX5_plan_61 (Nat.le_of_ble_eq_true rfl) rfl rfl ?_
        refine xt_iconst (v := nI 0) C dX5_plan_62 rfl ?_
        refine xt_istore_n (lo' := [_, _, _, _, _]) C dX5_plan_63 (Nat.le_of_ble_eq_true rfl) rfl rfl ?_
        have ht9 : t = (xt_nt c r sd) := by omega
        rw [ht9] at hpl
        exact xt_fg (by repeat' constructor) (loop2 (576 + 1) 0 T (by omega) hpl (by omega))
      · refine xt_aload_n C dX5_plan_49 rfl ?_
        refine xt_iload_n C dX5_plan_50 rfl ?_
        refine xt_cVpn C mv_X5_weigh lkX5_290 (ct_weigh hP8 ht (by rw [hT3]; exact hk) (n := 0) (hpl.2.2.2.2.1 t (by omega)).1 (by omega)) rfl (by decide) (xt_cl0 _ _) rfl (by decide) rfl (Nat.le_of_ble_eq_true rfl) dX5_plan_51 (fun S9 hq9 => ?_)
        obtain ⟨U, hU, rfl⟩ := hq9
        rw [hT2, hT3]
        have hpl9 := xt_pln_w (m' := t + 1) (t := t) hpl hU (fun j hj => by omega)
        refine xt_iincN (z := 1) (lo' := [_, _, _, _, _]) C dX5_plan_54 rfl rfl rfl ?_
        refine xt_goto (tgt := 38) C dX5_plan_57 (by decide) ?_
        exact xt_fg (by repeat' constructor) (ih (t + 1) _ (by omega) hpl9 (by omega))
  refine xt_iload_n C dX5_plan_0 rfl ?_
  refine xt_iconst (v := nI 0) C dX5_plan_1 rfl ?_
  refine xt_sipush (v := nI 9999) C dX5_plan_2 (by decide) ?_
  refine xt_cS C ms_X5_isBetween lkX5_61 ct_between rfl (by decide) rfl (Nat.le_of_ble_eq_true rfl) dX5_plan_5 ?_
  refine xt_if_neB (tgt := 22) C dX5_plan_8 (by decide) (fun c8 => ?_) (fun c8 => ?_)
  · refine xt_aload_n C dX5_plan_22 rfl ?_
    refine xt_get (f := 5) C xt_u5 rfl (by decide) (xt_cl0 _ _) (by decide) lkX5_40 rfl dX5_plan_23 ?_
    refine xt_aload_n C dX5_plan_26 rfl ?_
    refine xt_get (f := 0) C xt_u5 rfl (by decide) (xt_cl0 _ _) (by decide) lkX5_10 rfl dX5_plan_27 ?_
    refine xt_cVN C mv_X1_tileTotal lkX5_80 (ct_total hP9) rfl (by decide) (xt_cl1 _ _) rfl (by decide) rfl (Nat.le_of_ble_eq_true rfl) dX5_plan_30 ?_
    refine xt_cVNn C mv_X2_start lkX5_284 ct_planStart rfl (by decide) (xt_cl42 _ _) rfl (by decide) rfl (Nat.le_of_ble_eq_true rfl) dX5_plan_33 ?_
    refine xt_iconst (v := nI 0) C dX5_plan_36 rfl ?_
    refine xt_istore_n (lo' := [_, _, _, _, _]) C dX5_plan_37 (Nat.le_of_ble_eq_true rfl) rfl rfl ?_
    refine xt_fg (by repeat' constructor) (loop1 (xt_nt c r sd + 1) 0 _ (by omega) ⟨fun i f a b => ?_, fun i hi => xt_sA_n (by omega), rfl, ?_, fun t ht => ?_, fun t ht => absurd ht (Nat.not_lt_zero _)⟩ (by omega))
    · show (xt_sN S 42 0 _).1 i f = _
      simp [xt_sN, b]
    · show (xt_sN S 42 0 _).1 42 0 = _
      simp [xt_sN]
    · rw [xt_sA_s]
      exact ⟨by show (if t < 64 then 0 else _) = nI 0; rw [if_pos ht]; rfl, Nat.zero_le _⟩
  · exact absurd ⟨nI_pos' (by omega), nI_le hbg (by omega)⟩ c8
set_option maxRecDepth 20000 in
set_option maxHeartbeats 2000000 in
theorem ct_plan_bad {Q : Option Value → xt_St → Prop} (hst : l.stackTraces = false) {n : Int32} (hn : ¬ (nI 0 ≤ n ∧ n ≤ nI 9999)) : xt_CtX E l yX5_plan cX5_plan 5 (some Jvm.ClassFile.FieldType.int) 7 174 1 6 [.ref (E.1 0), .int n] S Q (xt_Ex "java/lang/IllegalArgumentException" S) := by
  refine xt_bodyX (by decide +kernel) (xt_all rfl) (Nat.le_of_ble_eq_true rfl) (fun cx C hl9 hx9 => ?_)
  show xt_X E cx _ 0 0 0 [some (.ref (E.1 0)), some (.int n), none, none, none] [] S
  refine xt_iload_n C dX5_plan_0 rfl ?_
  refine xt_iconst (v := nI 0) C dX5_plan_1 rfl ?_
  refine xt_sipush (v := nI 9999) C dX5_plan_2 (by decide) ?_
  refine xt_cS C ms_X5_isBetween lkX5_61 ct_between rfl (by decide) rfl (Nat.le_of_ble_eq_true rfl) dX5_plan_5 ?_
  refine xt_if_neB (tgt := 22) C dX5_plan_8 (by decide) (fun c8 => ?_) (fun c8 => ?_)
  · exact absurd c8 hn
  · exact xt_throwW (i := 17) C (by rw [hl9]; exact hst) hx9 xw_65 rfl dX5_plan_11 dX5_plan_14 dX5_plan_15 dX5_plan_18 dX5_plan_21 rfl ⟨by decide, by decide, by decide, by decide⟩ (by decide) ⟨by decide, by decide⟩ ⟨rfl, rfl⟩
set_option maxRecDepth 20000 in
set_option maxHeartbeats 2000000 in
theorem ct_planned_ok {QX : String → xt_St → Prop} {n t : Nat} (hn : S.1 42 0 = nI n) (ht : t < n) (hn64 : n ≤ 64) {v : Int32} (hv : S.2.1 43 t = v) : xt_CtX E l yX5_planned cX5_planned 2 (some Jvm.ClassFile.FieldType.int) 7 110 1 6 [.ref (E.1 0), .int (nI t)] S (xt_Eq (some (.int v)) S) QX := by
  refine xt_bodyX (by decide +kernel) (xt_all rfl) (Nat.le_of_ble_eq_true rfl) (fun cx C hl9 hx9 => ?_)
  show xt_X E cx _ 0 0 0 [some (.ref (E.1 0)), some (.int (nI t))] [] S
  refine xt_aload_n C dX5_planned_0 rfl ?_
  refine xt_get (f := 5) C xt_u5 rfl (by decide) (xt_cl0 _ _) (by decide) lkX5_40 rfl dX5_planned_1 ?_
  refine xt_getN (f := 0) C xt_u2 rfl (by decide) (xt_cl42 _ _) (by decide) lkX5_287 (xt_vI hn) dX5_planned_4 ?_
  refine xt_if_geN (tgt := 21) C dX5_planned_7 (by decide) (by omega) ?_
  refine xt_iload_n C dX5_planned_21 rfl ?_
  refine xt_iconst (v := nI 0) C dX5_planned_22 rfl ?_
  refine xt_aload_n C dX5_planned_23 rfl ?_
  refine xt_get (f := 5) C xt_u5 rfl (by decide) (xt_cl0 _ _) (by decide) lkX5_40 rfl dX5_planned_24 ?_
  refine xt_getN (f := 0) C xt_u2 rfl (by decide) (xt_cl42 _ _) (by decide) lkX5_287 (xt_vI hn) dX5_planned_27 ?_
  refine xt_iconst (v := nI 1) C dX5_planned_30 rfl ?_
  refine xt_isubN C dX5_planned_31 (by omega) ?_
  refine xt_cS C ms_X5_isBetween lkX5_61 ct_between rfl (by decide) rfl (Nat.le_of_ble_eq_true rfl) dX5_planned_32 ?_
  refine xt_if_neB (tgt := 49) C dX5_planned_35 (by decide) (fun c35 => ?_) (fun c35 => ?_)
  · refine xt_aload_n C dX5_planned_49 rfl ?_
    refine xt_get (f := 5) C xt_u5 rfl (by decide) (xt_cl0 _ _) (by decide) lkX5_40 rfl dX5_planned_50 ?_
    refine xt_getN (f := 1) C xt_u2 rfl (by decide) (xt_cl42 _ _) (by decide) lkX5_299 rfl dX5_planned_53 ?_
    refine xt_iload_n C dX5_planned_56 rfl ?_
    refine xt_cS C ms_X5_at lkX5_145 (ct_at (by decide) (xt_cl43 _) (by decide) (by omega) hv) rfl (by decide) rfl (Nat.le_of_ble_eq_true rfl) dX5_planned_57 ?_
    refine xt_ofM ?_
    exact xt_iret C dX5_planned_60 ⟨by decide, by decide⟩ ⟨rfl, rfl⟩
  · exact absurd ⟨nI_pos' (by omega), nI_le (by omega) (by omega)⟩ c35
set_option maxRecDepth 20000 in
set_option maxHeartbeats 2000000 in
theorem ct_planned_bad1 {Q : Option Value → xt_St → Prop} (hst : l.stackTraces = false) (hn : S.1 42 0 = -1) {a : Int32} : xt_CtX E l yX5_planned cX5_planned 2 (some Jvm.ClassFile.FieldType.int) 7 110 1 6 [.ref (E.1 0), .int a] S Q (xt_Ex xt_NE S) := by
  refine xt_bodyX (by decide +kernel) (xt_all rfl) (Nat.le_of_ble_eq_true rfl) (fun cx C hl9 hx9 => ?_)
  show xt_X E cx _ 0 0 0 [some (.ref (E.1 0)), some (.int a)] [] S
  refine xt_aload_n C dX5_planned_0 rfl ?_
  refine xt_get (f := 5) C xt_u5 rfl (by decide) (xt_cl0 _ _) (by decide) lkX5_40 rfl dX5_planned_1 ?_
  refine xt_getN (f := 0) C xt_u2 rfl (by decide) (xt_cl42 _ _) (by decide) lkX5_287 (xt_vI hn) dX5_planned_4 ?_
  refine xt_if_ge (tgt := 21) C dX5_planned_7 (by decide) (fun c7 => ?_) (fun c7 => ?_)
  · exact absurd c7 (by decide)
  · exact xt_throwN (i := 18) C (by rw [hl9]; exact hst) hx9 rfl dX5_planned_10 dX5_planned_13 dX5_planned_14 dX5_planned_17 dX5_planned_20 rfl ⟨by decide, by decide, by decide, by decide⟩ (by decide) ⟨by decide, by decide⟩ ⟨rfl, rfl⟩
set_option maxRecDepth 20000 in
set_option maxHeartbeats 2000000 in
theorem ct_planned_bad2 {Q : Option Value → xt_St → Prop} (hst : l.stackTraces = false) {n : Nat} (hn : S.1 42 0 = nI n) (hn0 : 0 < n) (hn64 : n ≤ 64) {a : Int32} (hb : ¬ (nI 0 ≤ a ∧ a ≤ nI (n - 1))) : xt_CtX E l yX5_planned cX5_planned 2 (some Jvm.ClassFile.FieldType.int) 7 110 1 6 [.ref (E.1 0), .int a] S Q (xt_Ex "java/lang/IndexOutOfBoundsException" S) := by
  refine xt_bodyX (by decide +kernel) (xt_all rfl) (Nat.le_of_ble_eq_true rfl) (fun cx C hl9 hx9 => ?_)
  show xt_X E cx _ 0 0 0 [some (.ref (E.1 0)), some (.int a)] [] S
  refine xt_aload_n C dX5_planned_0 rfl ?_
  refine xt_get (f := 5) C xt_u5 rfl (by decide) (xt_cl0 _ _) (by decide) lkX5_40 rfl dX5_planned_1 ?_
  refine xt_getN (f := 0) C xt_u2 rfl (by decide) (xt_cl42 _ _) (by decide) lkX5_287 (xt_vI hn) dX5_planned_4 ?_
  refine xt_if_geN (tgt := 21) C dX5_planned_7 (by decide) (by omega) ?_
  refine xt_iload_n C dX5_planned_21 rfl ?_
  refine xt_iconst (v := nI 0) C dX5_planned_22 rfl ?_
  refine xt_aload_n C dX5_planned_23 rfl ?_
  refine xt_get (f := 5) C xt_u5 rfl (by decide) (xt_cl0 _ _) (by decide) lkX5_40 rfl dX5_planned_24 ?_
  refine xt_getN (f := 0) C xt_u2 rfl (by decide) (xt_cl42 _ _) (by decide) lkX5_287 (xt_vI hn) dX5_planned_27 ?_
  refine xt_iconst (v := nI 1) C dX5_planned_30 rfl ?_
  refine xt_isubN C dX5_planned_31 (by omega) ?_
  refine xt_cS C ms_X5_isBetween lkX5_61 ct_between rfl (by decide) rfl (Nat.le_of_ble_eq_true rfl) dX5_planned_32 ?_
  refine xt_if_neB (tgt := 49) C dX5_planned_35 (by decide) (fun c35 => ?_) (fun c35 => ?_)
  · exact absurd c35 hb
  · exact xt_throwW (i := 19) C (by rw [hl9]; exact hst) hx9 xw_134 rfl dX5_planned_38 dX5_planned_41 dX5_planned_42 dX5_planned_45 dX5_planned_48 rfl ⟨by decide, by decide, by decide, by decide⟩ (by decide) ⟨by decide, by decide⟩ ⟨rfl, rfl⟩
set_option maxRecDepth 20000 in
set_option maxHeartbeats 2000000 in
theorem ct_fault_ok {QX : String → xt_St → Prop} {n : Nat} (hn : S.1 0 7 = nI n) (h31 : n < 1000) : xt_CtX E l yX5_faultPosition cX5_faultPosition 1 (some Jvm.ClassFile.FieldType.int) 7 110 1 6 [.ref (E.1 0)] S (xt_Eq (some (.int (nI n))) S) QX := by
  refine xt_bodyX (by decide +kernel) (xt_all rfl) (Nat.le_of_ble_eq_true rfl) (fun cx C hl9 hx9 => ?_)
  show xt_X E cx _ 0 0 0 [some (.ref (E.1 0))] [] S
  refine xt_aload_n C dX5_faultPosition_0 rfl ?_
  refine xt_get (f := 7) C xt_u5 rfl (by decide) (xt_cl0 _ _) (by decide) lkX5_51 (xt_vI hn) dX5_faultPosition_1 ?_
  refine xt_if_geN (tgt := 18) C dX5_faultPosition_4 (by decide) (by omega) ?_
  refine xt_aload_n C dX5_faultPosition_18 rfl ?_
  refine xt_get (f := 7) C xt_u5 rfl (by decide) (xt_cl0 _ _) (by decide) lkX5_51 (xt_vI hn) dX5_faultPosition_19 ?_
  refine xt_ofM ?_
  exact xt_iret C dX5_faultPosition_22 ⟨by decide, by decide⟩ ⟨rfl, rfl⟩
set_option maxRecDepth 20000 in
set_option maxHeartbeats 2000000 in
theorem ct_fault_bad {Q : Option Value → xt_St → Prop} (hst : l.stackTraces = false) (hn : S.1 0 7 = -1) : xt_CtX E l yX5_faultPosition cX5_faultPosition 1 (some Jvm.ClassFile.FieldType.int) 7 110 1 6 [.ref (E.1 0)] S Q (xt_Ex xt_NE S) := by
  refine xt_bodyX (by decide +kernel) (xt_all rfl) (Nat.le_of_ble_eq_true rfl) (fun cx C hl9 hx9 => ?_)
  show xt_X E cx _ 0 0 0 [some (.ref (E.1 0))] [] S
  refine xt_aload_n C dX5_faultPosition_0 rfl ?_
  refine xt_get (f := 7) C xt_u5 rfl (by decide) (xt_cl0 _ _) (by decide) lkX5_51 (xt_vI hn) dX5_faultPosition_1 ?_
  refine xt_if_ge (tgt := 18) C dX5_faultPosition_4 (by decide) (fun c4 => ?_) (fun c4 => ?_)
  · exact absurd c4 (by decide)
  · exact xt_throwN (i := 27) C (by rw [hl9]; exact hst) hx9 rfl dX5_faultPosition_7 dX5_faultPosition_10 dX5_faultPosition_11 dX5_faultPosition_14 dX5_faultPosition_17 rfl ⟨by decide, by decide, by decide, by decide⟩ (by decide) ⟨by decide, by decide⟩ ⟨rfl, rfl⟩
set_option maxRecDepth 20000 in
set_option maxHeartbeats 2000000 in
theorem ct_refusal1_ok {QX : String → xt_St → Prop} {n : Nat} (hn : S.1 0 8 = nI n) (h31 : n < 1000) : xt_CtX E l yX5_refusal cX5_refusal 2 (some Jvm.ClassFile.FieldType.int) 7 110 1 6 [.ref (E.1 0), .int (nI 1)] S (xt_Eq (some (.int (S.1 0 8))) S) QX := by
  refine xt_bodyX (by decide +kernel) (xt_all rfl) (Nat.le_of_ble_eq_true rfl) (fun cx C hl9 hx9 => ?_)
  show xt_X E cx _ 0 0 0 [some (.ref (E.1 0)), some (.int (nI 1))] [] S
  refine xt_aload_n C dX5_refusal_0 rfl ?_
  refine xt_get (f := 8) C xt_u5 rfl (by decide) (xt_cl0 _ _) (by decide) lkX5_55 (xt_vI hn) dX5_refusal_1 ?_
  refine xt_if_geN (tgt := 18) C dX5_refusal_4 (by decide) (by omega) ?_
  refine xt_iload_n C dX5_refusal_18 rfl ?_
  refine xt_if_eqN (tgt := 29) C dX5_refusal_19 (by decide) (by omega) (fun c19 => ?_) (fun c19 => ?_)
  · exact absurd c19 (by decide)
  · refine xt_aload_n C dX5_refusal_22 rfl ?_
    refine xt_get (f := 8) C xt_u5 rfl (by decide) (xt_cl0 _ _) (by decide) lkX5_55 (xt_vI hn) dX5_refusal_23 ?_
    refine xt_goto (tgt := 33) C dX5_refusal_26 (by decide) ?_
    refine xt_ofM ?_
    exact xt_iret C dX5_refusal_33 ⟨by decide, by decide⟩ ⟨by rw [hn], rfl⟩
set_option maxRecDepth 20000 in
set_option maxHeartbeats 2000000 in
theorem ct_refusal0_ok {QX : String → xt_St → Prop} {n : Nat} (hn : S.1 0 8 = nI n) (h31 : n < 1000) : xt_CtX E l yX5_refusal cX5_refusal 2 (some Jvm.ClassFile.FieldType.int) 7 110 1 6 [.ref (E.1 0), .int (nI 0)] S (xt_Eq (some (.int (S.1 0 9))) S) QX := by
  refine xt_bodyX (by decide +kernel) (xt_all rfl) (Nat.le_of_ble_eq_true rfl) (fun cx C hl9 hx9 => ?_)
  show xt_X E cx _ 0 0 0 [some (.ref (E.1 0)), some (.int (nI 0))] [] S
  refine xt_aload_n C dX5_refusal_0 rfl ?_
  refine xt_get (f := 8) C xt_u5 rfl (by decide) (xt_cl0 _ _) (by decide) lkX5_55 (xt_vI hn) dX5_refusal_1 ?_
  refine xt_if_geN (tgt := 18) C dX5_refusal_4 (by decide) (by omega) ?_
  refine xt_iload_n C dX5_refusal_18 rfl ?_
  refine xt_if_eqN (tgt := 29) C dX5_refusal_19 (by decide) (by omega) (fun c19 => ?_) (fun c19 => ?_)
  · refine xt_aload_n C dX5_refusal_29 rfl ?_
    refine xt_get (f := 9) C xt_u5 rfl (by decide) (xt_cl0 _ _) (by decide) lkX5_58 rfl dX5_refusal_30 ?_
    refine xt_ofM ?_
    exact xt_iret C dX5_refusal_33 ⟨by decide, by decide⟩ ⟨rfl, rfl⟩
  · exact absurd c19 (by decide)
set_option maxRecDepth 20000 in
set_option maxHeartbeats 2000000 in
theorem ct_refusal_bad {Q : Option Value → xt_St → Prop} (hst : l.stackTraces = false) (hn : S.1 0 8 = -1) {m : Int32} : xt_CtX E l yX5_refusal cX5_refusal 2 (some Jvm.ClassFile.FieldType.int) 7 110 1 6 [.ref (E.1 0), .int m] S Q (xt_Ex xt_NE S) := by
  refine xt_bodyX (by decide +kernel) (xt_all rfl) (Nat.le_of_ble_eq_true rfl) (fun cx C hl9 hx9 => ?_)
  show xt_X E cx _ 0 0 0 [some (.ref (E.1 0)), some (.int m)] [] S
  refine xt_aload_n C dX5_refusal_0 rfl ?_
  refine xt_get (f := 8) C xt_u5 rfl (by decide) (xt_cl0 _ _) (by decide) lkX5_55 (xt_vI hn) dX5_refusal_1 ?_
  refine xt_if_ge (tgt := 18) C dX5_refusal_4 (by decide) (fun c4 => ?_) (fun c4 => ?_)
  · exact absurd c4 (by decide)
  · exact xt_throwN (i := 28) C (by rw [hl9]; exact hst) hx9 rfl dX5_refusal_7 dX5_refusal_10 dX5_refusal_11 dX5_refusal_14 dX5_refusal_17 rfl ⟨by decide, by decide, by decide, by decide⟩ (by decide) ⟨by decide, by decide⟩ ⟨rfl, rfl⟩
end XC33
