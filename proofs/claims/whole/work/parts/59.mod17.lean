/-! THE MODEL: meanSquare, plan -/
section XM17
variable {E : xt_Ev} {l : Launch} {S : xt_St}
theorem xt_row_sh {f : Nat → Int32} {a : Int32} : ∀ n, xt_it (fun x s => s + f x) n a = a + xt_it (fun x s => s + f x) n 0 := by
  intro n
  induction n with
  | zero => exact (Int32.add_zero a).symm
  | succ n ih =>
    show xt_it (fun x s => s + f x) n a + f n = a + (xt_it (fun x s => s + f x) n 0 + f n)
    rw [ih, Int32.add_assoc]
theorem xt_S2_sh {g : Nat → Nat → Int32} {w : Nat} {a : Int32} : ∀ h, xt_it (fun y s => xt_it (fun x s => s + g x y) w s) h a = a + xt_S2 g w h := by
  intro h
  induction h with
  | zero => exact (Int32.add_zero a).symm
  | succ h ih =>
    show xt_it (fun x s => s + g x h) w (xt_it (fun y s => xt_it (fun x s => s + g x y) w s) h a) = a + xt_it (fun x s => s + g x h) w (xt_S2 g w h)
    rw [ih, xt_row_sh, xt_row_sh (a := xt_S2 g w h), Int32.add_assoc]
theorem xt_mx2_p {g : Nat → Nat → Int32} {w h : Nat} : ¬ xt_mx2 g w h < 0 := by
  unfold xt_mx2
  have row : ∀ (f : Nat → Int32) n a, ¬ a < (0 : Int32) → ¬ xt_it (fun x s => if s < f x then f x else s) n a < 0 := by
    intro f n
    induction n with
    | zero => exact fun a h => h
    | succ n ih =>
      intro a ha
      have h9 := ih a ha
      show ¬ (if xt_it (fun x s => if s < f x then f x else s) n a < f n then f n else xt_it (fun x s => if s < f x then f x else s) n a) < 0
      split
      · intro z
        rename_i z9
        exact h9 (Int32.lt_trans z9 z)
      · exact h9
  have col : ∀ n, ¬ xt_it (fun y s => xt_it (fun x s => if s < g x y then g x y else s) w s) n 0 < 0 := by
    intro n
    induction n with
    | zero => show ¬ (0 : Int32) < 0; decide
    | succ n ih => exact row (fun x => g x n) w _ ih
  exact col h
theorem xt_tW_p {c r sd pl pb t n : Nat} {v k : Nat → Int32} : ¬ xt_tW c r sd pl pb t n v k < 0 := xt_mx2_p
theorem xt_nx_in {ly : Nat → Nat} {df cs : Nat → Int32} {left : Int32} : ∀ n, ((xt_it (xt_nx ly df cs left) n (none, 0)).1 = none → (xt_it (xt_nx ly df cs left) n (none, 0)).2 = 0) ∧ ∀ b, (xt_it (xt_nx ly df cs left) n (none, 0)).1 = some b → (xt_it (xt_nx ly df cs left) n (none, 0)).2 = df b ∧ b < n := by
  intro n
  induction n with
  | zero => exact ⟨fun _ => rfl, fun b h => (by cases h)⟩
  | succ n ih =>
    show ((xt_nx ly df cs left n (xt_it (xt_nx ly df cs left) n (none, 0))).1 = none → (xt_nx ly df cs left n (xt_it (xt_nx ly df cs left) n (none, 0))).2 = 0) ∧ ∀ b, (xt_nx ly df cs left n (xt_it (xt_nx ly df cs left) n (none, 0))).1 = some b → (xt_nx ly df cs left n (xt_it (xt_nx ly df cs left) n (none, 0))).2 = df b ∧ b < n + 1
    by_cases z : ly n < 9 ∧ ¬ left < cs n ∧ (xt_it (xt_nx ly df cs left) n (none, 0)).2 < df n
    · rw [xt_nx1 z]
      exact ⟨fun h => (by cases h), fun b h => (by cases h; exact ⟨rfl, by omega⟩)⟩
    · rw [xt_nx0 z]
      exact ⟨ih.1, fun b h => ⟨(ih.2 b h).1, by have := (ih.2 b h).2; omega⟩⟩
def xt_smL (f : Nat → Nat) (n : Nat) : Nat := xt_it (fun t s => s + f t) n 0
theorem xt_smL_u {f g : Nat → Nat} {u : Nat} (hg : ∀ i, g i = if i = u then f u + 1 else f i) : ∀ n, (n ≤ u → xt_smL g n = xt_smL f n) ∧ (u < n → xt_smL g n = xt_smL f n + 1) := by
  intro n
  induction n with
  | zero => exact ⟨fun _ => rfl, fun h => absurd h (Nat.not_lt_zero _)⟩
  | succ n ih =>
    have e1 : xt_smL g (n + 1) = xt_smL g n + g n := rfl
    have e2 : xt_smL f (n + 1) = xt_smL f n + f n := rfl
    rw [e1, e2, hg n]
    by_cases e : n = u
    · rw [if_pos e, e]
      have := ih.1 (by omega)
      rw [e] at this
      exact ⟨fun h => by omega, fun _ => by omega⟩
    · rw [if_neg e]
      refine ⟨fun h => by rw [ih.1 (by omega)], fun h => ?_⟩
      rw [ih.2 (by omega)]; omega
theorem xt_smL_le {f : Nat → Nat} (h : ∀ t, f t ≤ 9) : ∀ n, xt_smL f n ≤ 9 * n := by
  intro n
  induction n with
  | zero => exact Nat.le_refl _
  | succ n ih =>
    have e1 : xt_smL f (n + 1) = xt_smL f n + f n := rfl
    have := h n
    omega
theorem xt_smL_lt {f : Nat → Nat} {u : Nat} (h : ∀ t, f t ≤ 9) (hf : f u < 9) : ∀ n, u < n → xt_smL f n < 9 * n := by
  intro n
  induction n with
  | zero => intro h; exact absurd h (Nat.not_lt_zero _)
  | succ n ih =>
    intro hu
    have e1 : xt_smL f (n + 1) = xt_smL f n + f n := rfl
    have h1 := h n
    have h2 := xt_smL_le h n
    by_cases e : n = u
    · subst e; omega
    · have := ih (by omega); omega
/-- the plan at work in the model -/
def xt_mpl (S T : xt_St) (n : Nat) (ly : Nat → Nat) (m : Nat) (W : Nat → Nat → Int32) : Prop := (∃ f g, xt_mfr (xt_sA (xt_sA (xt_sN (xt_sN S 49 0 (nI 0)) 49 13 (nI n)) 55 f) 56 g) T) ∧ (∀ t, ly t ≤ 9) ∧ ∀ t, t < m → T.2.1 55 t = nI (ly t) ∧ T.2.1 56 t = W t (ly t)
section MPL
variable {T U : xt_St} {n m : Nat} {ly : Nat → Nat} {W : Nat → Nat → Int32}
theorem xt_mpl_n (h : xt_mpl S T n ly m W) : T.1 49 13 = nI n := by
  obtain ⟨⟨f, g, h1⟩, -⟩ := h
  rw [h1.1 49 13 (by omega)]
  show (xt_sN (xt_sN S 49 0 (nI 0)) 49 13 (nI n)).1 49 13 = nI n
  simp [xt_sN]
theorem xt_mpl_50 (h : xt_mpl S T n ly m W) : T.2.1 50 = S.2.1 50 := by
  obtain ⟨⟨f, g, h1⟩, -⟩ := h
  rw [h1.2.1 50 (by omega), xt_sA_n (by decide), xt_sA_n (by decide)]
  rfl
theorem xt_mpl_M {c r sd lv bo : Nat} (h : xt_mpl S T n ly m W) (hM : xt_Mp S c r sd lv bo) : xt_Mp T c r sd lv bo := by
  unfold xt_Mp at hM ⊢
  rw [xt_mpl_50 h]
  exact hM
theorem xt_mpl_fr (h : xt_mpl S T n ly m W) (hU : xt_mfr T U) : xt_mpl S U n ly m W := by
  obtain ⟨⟨f, g, h1⟩, h2, h3⟩ := h
  refine ⟨⟨f, g, xt_mfr_tr h1 hU⟩, h2, fun t ht => ?_⟩
  rw [hU.2.1 55 (by omega), hU.2.1 56 (by omega)]
  exact h3 t ht
theorem xt_mpl_a {ly' : Nat → Nat} {m' t a : Nat} {z : Int32} (h : xt_mpl S T n ly m W) (ha : a ≤ 9) (he : ∀ i, ly' i = if i = t then a else ly i) (hm : ∀ j, j < m' → j < m ∨ j = t) (hU : xt_mfr (xt_sA T 55 (upd (T.2.1 55) t (nI a))) U) (hz : z = W t a) : xt_mpl S (xt_sA U 56 (upd (U.2.1 56) t z)) n ly' m' W := by
  obtain ⟨⟨f, g, h1⟩, h2, h3⟩ := h
  have e55 : U.2.1 55 = upd (T.2.1 55) t (nI a) := by rw [hU.2.1 55 (by omega), xt_sA_s]
  have e56 : U.2.1 56 = T.2.1 56 := by rw [hU.2.1 56 (by omega), xt_sA_n (by decide)]
  refine ⟨⟨upd (T.2.1 55) t (nI a), upd (U.2.1 56) t z, ?_⟩, fun i => ?_, fun j hj => ?_⟩
  · refine ⟨fun i f9 hi => ((hU.1 i f9 hi).trans (h1.1 i f9 hi)), fun i hi => ?_, fun i a b => (hU.2.2.1 i a b).trans (h1.2.2.1 i a b), hU.2.2.2.trans h1.2.2.2⟩
    by_cases q : i = 56
    · rw [q, xt_sA_s, xt_sA_s]
    · rw [xt_sA_n q, xt_sA_n q]
      by_cases q2 : i = 55
      · rw [q2, e55, xt_sA_s]
      · rw [xt_sA_n q2, hU.2.1 i hi, xt_sA_n q2, h1.2.1 i hi, xt_sA_n q, xt_sA_n q2]
  · rw [he]
    split
    · exact ha
    · exact h2 i
  · rw [xt_sA_n (by decide), xt_sA_s, e55, e56, he]
    by_cases e : j = t
    · rw [e, xt_up_s, xt_up_s, if_pos rfl]; exact ⟨rfl, hz⟩
    · rw [xt_up_n e, xt_up_n e, if_neg e]
      exact h3 j ((hm j hj).resolve_right e)
end MPL
set_option maxRecDepth 20000 in
set_option maxHeartbeats 2000000 in
theorem ct_mmeanSquare {c r sd lv bo : Nat} (hM : xt_Mp S c r sd lv bo) {v k : Nat → Int32} (hvv : ∀ j, j < 256 → xt_mV S j = v j) (hkk : ∀ j, j < 256 → xt_mK S j = k j) (hvr : ∀ j, j < 256 → ∃ m, m ≤ 255 ∧ v j = nI m) (hk : ∀ j, j < 256 → k j = nI 0 ∨ k j = nI 1) {n : Nat} (hn9 : n ≤ 9) : xt_Ct E l yX6_meanSquare cX6_meanSquare 6 (some Jvm.ClassFile.FieldType.double) 4 84 0 0 [.ref (E.1 49), .int (nI n)] S (xt_Ep (some (.double (FP.ddiv (FP.i2d (xt_sq c r sd lv bo n v k (xt_nt c r sd))) (FP.i2d (nI (c * r)))))) (xt_mr S 0)) := by
  refine xt_body (by decide +kernel) (xt_all rfl) (Nat.le_of_ble_eq_true rfl) (fun cx C hl9 => ?_)
  show xt_X E cx _ 0 0 0 [some (.ref (E.1 49)), some (.int (nI n)), none, none, none, none] [] S
  have hM9 := hM
  obtain ⟨hc, hr, hs, hv, hb, b1, b2, b3, b4, b5, b6, b7⟩ := hM
  have hnt := xt_nt_b ⟨b1, b2⟩ ⟨b3, b4⟩ b5
  have hpx : 4 ≤ c * r ∧ c * r ≤ 256 := ⟨Nat.mul_le_mul b1 b3, Nat.mul_le_mul b2 b4⟩
  refine xt_aload_n C dX6_meanSquare_0 rfl ?_
  refine xt_iload_n C dX6_meanSquare_1 rfl ?_
  refine xt_iconst (v := nI 0) C dX6_meanSquare_2 rfl ?_
  refine xt_bipush (v := nI 9) C dX6_meanSquare_3 (by decide) ?_
  refine xt_cS C ms_X6_in lkX6_81 ct_in rfl (by decide) rfl (Nat.le_of_ble_eq_true rfl) dX6_meanSquare_5 ?_
  refine xt_if_eqB (tgt := 15) C dX6_meanSquare_8 (by decide) (fun c8 => ?_) (fun c8 => ?_)
  · exact absurd ⟨nI_pos' (by omega), nI_le hn9 (by omega)⟩ c8
  · refine xt_iconst (v := nI 0) C dX6_meanSquare_11 rfl ?_
    refine xt_goto (tgt := 16) C dX6_meanSquare_12 (by decide) ?_
    refine xt_put (f := 0) C xt_u6 rfl (by decide) (xt_cl49 _ _) (by decide) tyX6 tyX6_ok nmX6 lkX6_74 rfl (tyX6_ok 0 (by decide)) rfl rfl (Nat.le_of_ble_eq_true rfl) rfl dX6_meanSquare_16 ?_
    refine xt_aload_n C dX6_meanSquare_19 rfl ?_
    refine xt_get (f := 0) C xt_u6 rfl (by decide) (xt_cl49 _ _) (by decide) lkX6_74 rfl dX6_meanSquare_20 ?_
    refine xt_if_le (tgt := 28) C dX6_meanSquare_23 (by decide) (fun c23 => ?_) (fun c23 => ?_)
    · refine xt_iconst (v := nI 0) C dX6_meanSquare_28 rfl ?_
      refine xt_istore_n (lo' := [_, _, _, _, _, _]) C dX6_meanSquare_29 (Nat.le_of_ble_eq_true rfl) rfl rfl ?_
      refine xt_iconst (v := nI 0) C dX6_meanSquare_30 rfl ?_
      refine xt_istore_n (lo' := [_, _, _, _, _, _]) C dX6_meanSquare_31 (Nat.le_of_ble_eq_true rfl) rfl rfl ?_
      have loop : ∀ (d t : Nat) (T : xt_St), t ≤ (xt_nt c r sd) → (xt_mfr (xt_sN S 49 0 (nI 0)) T) → (xt_nt c r sd) + 1 ≤ t + d → xt_X E cx (xt_ZM E cx 0 0 (xt_Ep (some (.double (FP.ddiv (FP.i2d (xt_sq c r sd lv bo n v k (xt_nt c r sd))) (FP.i2d (nI (c * r)))))) (xt_mr S 0))) 0 0 32 [some (.ref (E.1 49)), some (.int (nI n)), some (.int (xt_sq c r sd lv bo n v k t)), some (.int (nI t)), none, none] [] T := by
        intro d
        induction d with
        | zero => intro t T h0t hfr h1t; exact absurd h1t (by omega)
        | succ d ih =>
          intro t T h0t hfr h1t
          refine xt_iload_n C dX6_meanSquare_32 rfl ?_
          refine xt_aload_n C dX6_meanSquare_33 rfl ?_
          refine xt_cV C mv_X6_tiles lkX6_91 (ct_mtiles (by exact xt_mfr_Mp hfr hM9)) rfl (by decide) (xt_cl49 _ _) rfl (by decide) rfl (Nat.le_of_ble_eq_true rfl) dX6_meanSquare_34 ?_
          refine xt_icmp_geN (tgt := 116) C dX6_meanSquare_37 (by decide) (by omega) (by omega) (fun c37 => ?_) (fun ht => ?_)
          · refine xt_iload_n C dX6_meanSquare_116 rfl ?_
            refine xt_i2d C dX6_meanSquare_117 ?_
            refine xt_aload_n C dX6_meanSquare_118 rfl ?_
            refine xt_cV C mv_X6_columns lkX6_77 (ct_mcol (by exact xt_mfr_Mp hfr hM9)) rfl (by decide) (xt_cl49 _ _) rfl (by decide) rfl (Nat.le_of_ble_eq_true rfl) dX6_meanSquare_119 ?_
            refine xt_aload_n C dX6_meanSquare_122 rfl ?_
            refine xt_cV C mv_X6_rows lkX6_85 (ct_mrow (by exact xt_mfr_Mp hfr hM9)) rfl (by decide) (xt_cl49 _ _) rfl (by decide) rfl (Nat.le_of_ble_eq_true rfl) dX6_meanSquare_123 ?_
            refine xt_imulN C dX6_meanSquare_126 ?_
            refine xt_i2d C dX6_meanSquare_127 ?_
            refine xt_ddiv C dX6_meanSquare_128 (xt_fn64 (by omega) (by omega)) ?_
            exact xt_dret C dX6_meanSquare_129 ⟨by decide, by decide⟩ ⟨by rw [show t = (xt_nt c r sd) by omega], xt_mr_0 hfr⟩
          · refine xt_aload_n C dX6_meanSquare_40 rfl ?_
            refine xt_iload_n C dX6_meanSquare_41 rfl ?_
            refine xt_cVpn C mv_X6_looks lkX6_169 (ct_looks (by exact xt_mfr_Mp hfr hM9) ht (fun j hj => by rw [congrFun (xt_mfr_v hfr).2 j]; exact (hkk j hj ▸ hk j hj))) rfl (by decide) (xt_cl49 _ _) rfl (by decide) rfl (Nat.le_of_ble_eq_true rfl) dX6_meanSquare_42 (fun S9 hq9 => ?_)
            obtain ⟨hfr0, hL0⟩ := hq9
            have hL := xt_ML_c ⟨b1, b2⟩ ⟨b3, b4⟩ b5 ht (fun j hj => (congrFun (xt_mfr_v hfr).1 j).trans (hvv j hj)) (fun j hj => (congrFun (xt_mfr_v hfr).2 j).trans (hkk j hj)) hL0
            have hfr1 := xt_mfr_tr hfr hfr0
            rename xt_St => T1
            refine xt_aload_n C dX6_meanSquare_45 rfl ?_
            refine xt_iload_n C dX6_meanSquare_46 rfl ?_
            refine xt_cVpn C mv_X6_decodes lkX6_181 (ct_decodes (by exact xt_mfr_Mp hfr1 hM9) ht hL (xt_tA ⟨b1, b2⟩ ⟨b3, b4⟩ b5 ht hvr) hn9) rfl (by decide) (xt_cl49 _ _) rfl (by decide) rfl (Nat.le_of_ble_eq_true rfl) dX6_meanSquare_47 (fun S9 hq9 => ?_)
            obtain ⟨hfr2, hL2, hJ⟩ := hq9
            have hfr3 := xt_mfr_tr hfr1 hfr2
            rename xt_St => T2
            have hMt := hL2.1
            obtain ⟨m1, m2, m3, m4, g1, g2, g3, g4, g5, g6, g7⟩ := id hMt
            have hn := xt_nt_b ⟨b1, b2⟩ ⟨b3, b4⟩ b5
            have hT := xt_tile_b ⟨b1, b2⟩ ⟨b3, b4⟩ b5 ht
            refine xt_iconst (v := nI 0) C dX6_meanSquare_50 rfl ?_
            refine xt_istore (lo' := [_, _, _, _, _, _]) C dX6_meanSquare_51 (Nat.le_of_ble_eq_true rfl) rfl rfl ?_
            have out1 : ∀ (d1 y : Nat), y ≤ (xt_gh c r sd t) →  (xt_gh c r sd t) + 1 ≤ y + d1 → xt_X E cx (xt_ZM E cx 0 0 (xt_Ep (some (.double (FP.ddiv (FP.i2d (xt_sq c r sd lv bo n v k (xt_nt c r sd))) (FP.i2d (nI (c * r)))))) (xt_mr S 0))) 0 0 53 [some (.ref (E.1 49)), some (.int (nI n)), some (.int (xt_it (fun y s => xt_it (fun x s => s + xt_abs (xt_tJ c r sd lv bo t n v k (8 * y + x) - xt_tV c sd t v (8 * y + x)) * xt_abs (xt_tJ c r sd lv bo t n v k (8 * y + x) - xt_tV c sd t v (8 * y + x))) (xt_gw c sd t) s) y (xt_sq c r sd lv bo n v k t))), some (.int (nI t)), some (.int (nI y)), none] [] T2 := by
              intro d1
              induction d1 with
              | zero => intro y  h0y  h1y; exact absurd h1y (by omega)
              | succ d1 ih1 =>
                intro y  h0y  h1y
                refine xt_iload C dX6_meanSquare_53 rfl ?_
                refine xt_aload_n C dX6_meanSquare_55 rfl ?_
                refine xt_get (f := 20) C xt_u6 rfl (by decide) (xt_cl49 _ _) (by decide) lkX6_41 rfl dX6_meanSquare_56 ?_
                refine xt_iconst (v := nI 0) C dX6_meanSquare_59 rfl ?_
                refine xt_ialdN C (by decide) (xt_cl58 _) (by decide) (by decide) (show T2.2.1 58 0 = nI (xt_gh c r sd t) from by rw [(m4 0 (by omega)).2, xt_lo_0]) dX6_meanSquare_60 ?_
                refine xt_icmp_geN (tgt := 110) C dX6_meanSquare_61 (by decide) (by omega) (by omega) (fun c61 => ?_) (fun c61 => ?_)
                · refine xt_iincN (z := 1) (lo' := [_, _, _, _, _, _]) C dX6_meanSquare_110 rfl rfl rfl ?_
                  refine xt_goto (tgt := 32) C dX6_meanSquare_113 (by decide) ?_
                  have hy9 : y = (xt_gh c r sd t) := by omega
                  rw [hy9, xt_S2_sh]
                  exact xt_fg (by repeat' constructor) (ih (t + 1) T2 (by omega) hfr3 (by omega))
                · refine xt_iconst (v := nI 0) C dX6_meanSquare_64 rfl ?_
                  refine xt_istore (lo' := [_, _, _, _, _, _]) C dX6_meanSquare_65 (Nat.le_of_ble_eq_true rfl) rfl rfl ?_
                  have in2 : ∀ (d2 x : Nat), x ≤ (xt_gw c sd t) →  (xt_gw c sd t) + 1 ≤ x + d2 → xt_X E cx (xt_ZM E cx 0 0 (xt_Ep (some (.double (FP.ddiv (FP.i2d (xt_sq c r sd lv bo n v k (xt_nt c r sd))) (FP.i2d (nI (c * r)))))) (xt_mr S 0))) 0 0 67 [some (.ref (E.1 49)), some (.int (nI n)), some (.int (xt_it (fun x s => s + xt_abs (xt_tJ c r sd lv bo t n v k (8 * y + x) - xt_tV c sd t v (8 * y + x)) * xt_abs (xt_tJ c r sd lv bo t n v k (8 * y + x) - xt_tV c sd t v (8 * y + x))) x (xt_it (fun y s => xt_it (fun x s => s + xt_abs (xt_tJ c r sd lv bo t n v k (8 * y + x) - xt_tV c sd t v (8 * y + x)) * xt_abs (xt_tJ c r sd lv bo t n v k (8 * y + x) - xt_tV c sd t v (8 * y + x))) (xt_gw c sd t) s) y (xt_sq c r sd lv bo n v k t)))), some (.int (nI t)), some (.int (nI y)), some (.int (nI x))] [] T2 := by
                    intro d2
                    induction d2 with
                    | zero => intro x  h0x  h1x; exact absurd h1x (by omega)
                    | succ d2 ih2 =>
                      intro x  h0x  h1x
                      refine xt_iload C dX6_meanSquare_67 rfl ?_
                      refine xt_aload_n C dX6_meanSquare_69 rfl ?_
                      refine xt_get (f := 19) C xt_u6 rfl (by decide) (xt_cl49 _ _) (by decide) lkX6_38 rfl dX6_meanSquare_70 ?_
                      refine xt_iconst (v := nI 0) C dX6_meanSquare_73 rfl ?_
                      refine xt_ialdN C (by decide) (xt_cl57 _) (by decide) (by decide) (show T2.2.1 57 0 = nI (xt_gw c sd t) from by rw [(m4 0 (by omega)).1, xt_lo_0]) dX6_meanSquare_74 ?_
                      refine xt_icmp_geN (tgt := 104) C dX6_meanSquare_75 (by decide) (by omega) (by omega) (fun c75 => ?_) (fun c75 => ?_)
                      · refine xt_iincN (z := 1) (lo' := [_, _, _, _, _, _]) C dX6_meanSquare_104 rfl rfl rfl ?_
                        refine xt_goto (tgt := 53) C dX6_meanSquare_107 (by decide) ?_
                        have hx9 : x = (xt_gw c sd t) := by omega
                        subst hx9
                        exact xt_fg (by repeat' constructor) (ih1 (y + 1) (by omega)  (by omega))
                      · have hix := (xt_ix (c := c) (r := r) (x := (xt_gl c sd t) + x) (y := (xt_gt c sd t) + y) (by omega) (by omega) b2 b4).1
                        have hun : xt_mV T2 (((xt_gt c sd t) + y) * c + ((xt_gl c sd t) + x)) = xt_tV c sd t v (8 * y + x) := by
                          rw [xt_tV_at (by omega)]
                          exact (congrFun (xt_mfr_v hfr3).1 _).trans (hvv _ hix)
                        refine xt_iload_n C dX6_meanSquare_78 rfl ?_
                        refine xt_aload_n C dX6_meanSquare_79 rfl ?_
                        refine xt_iload C dX6_meanSquare_80 rfl ?_
                        refine xt_iload C dX6_meanSquare_82 rfl ?_
                        refine xt_cV C mv_X6_differs lkX6_139 (ct_differs (by exact xt_mfr_Mp hfr3 hM9) ht (by omega) (by omega) hL2.1 (hJ y x (by omega) (by omega)) hun) rfl (by decide) (xt_cl49 _ _) rfl (by decide) rfl (Nat.le_of_ble_eq_true rfl) dX6_meanSquare_84 ?_
                        refine xt_aload_n C dX6_meanSquare_87 rfl ?_
                        refine xt_iload C dX6_meanSquare_88 rfl ?_
                        refine xt_iload C dX6_meanSquare_90 rfl ?_
                        refine xt_cV C mv_X6_differs lkX6_139 (ct_differs (by exact xt_mfr_Mp hfr3 hM9) ht (by omega) (by omega) hL2.1 (hJ y x (by omega) (by omega)) hun) rfl (by decide) (xt_cl49 _ _) rfl (by decide) rfl (Nat.le_of_ble_eq_true rfl) dX6_meanSquare_92 ?_
                        refine xt_imul C dX6_meanSquare_95 ?_
                        refine xt_iadd C dX6_meanSquare_96 ?_
                        refine xt_istore_n (lo' := [_, _, _, _, _, _]) C dX6_meanSquare_97 (Nat.le_of_ble_eq_true rfl) rfl rfl ?_
                        refine xt_iincN (z := 1) (lo' := [_, _, _, _, _, _]) C dX6_meanSquare_98 rfl rfl rfl ?_
                        refine xt_goto (tgt := 67) C dX6_meanSquare_101 (by decide) ?_
                        have h9 := ih2 (x + 1) (by omega)  (by omega)
                        exact xt_fg (by repeat' constructor) h9
                  exact xt_fg (by repeat' constructor) (in2 ((xt_gw c sd t) + 1) 0 (by omega)  (by omega))
            exact xt_fg (by repeat' constructor) (out1 ((xt_gh c r sd t) + 1) 0 (by omega) (by omega))
      exact xt_fg (by repeat' constructor) (loop ((xt_nt c r sd) + 1) 0 _ (by omega) xt_mfr_rf (by omega))
    · exact absurd (show (xt_sN S 49 0 (nI 0)).1 49 0 ≤ 0 from by rw [show (xt_sN S 49 0 (nI 0)).1 49 0 = nI 0 from by simp [xt_sN]]; decide) c23
set_option maxRecDepth 20000 in
set_option maxHeartbeats 2000000 in
theorem ct_mmeanSquare_b {a : Int32} (hbad : ¬ (nI 0 ≤ a ∧ a ≤ nI 9)) : xt_Ct E l yX6_meanSquare cX6_meanSquare 6 (some Jvm.ClassFile.FieldType.double) 4 84 0 0 [.ref (E.1 49), .int a] S (xt_Ep (some (.double FP.dconst0)) (xt_mr S 1)) := by
  refine xt_body (by decide +kernel) (xt_all rfl) (Nat.le_of_ble_eq_true rfl) (fun cx C hl9 => ?_)
  show xt_X E cx _ 0 0 0 [some (.ref (E.1 49)), some (.int a), none, none, none, none] [] S
  refine xt_aload_n C dX6_meanSquare_0 rfl ?_
  refine xt_iload_n C dX6_meanSquare_1 rfl ?_
  refine xt_iconst (v := nI 0) C dX6_meanSquare_2 rfl ?_
  refine xt_bipush (v := nI 9) C dX6_meanSquare_3 (by decide) ?_
  refine xt_cS C ms_X6_in lkX6_81 ct_in rfl (by decide) rfl (Nat.le_of_ble_eq_true rfl) dX6_meanSquare_5 ?_
  refine xt_if_eqB (tgt := 15) C dX6_meanSquare_8 (by decide) (fun c8 => ?_) (fun c8 => ?_)
  · refine xt_iconst (v := nI 1) C dX6_meanSquare_15 rfl ?_
    refine xt_put (f := 0) C xt_u6 rfl (by decide) (xt_cl49 _ _) (by decide) tyX6 tyX6_ok nmX6 lkX6_74 rfl (tyX6_ok 0 (by decide)) rfl rfl (Nat.le_of_ble_eq_true rfl) rfl dX6_meanSquare_16 ?_
    refine xt_aload_n C dX6_meanSquare_19 rfl ?_
    refine xt_get (f := 0) C xt_u6 rfl (by decide) (xt_cl49 _ _) (by decide) lkX6_74 rfl dX6_meanSquare_20 ?_
    refine xt_if_le (tgt := 28) C dX6_meanSquare_23 (by decide) (fun c23 => ?_) (fun c23 => ?_)
    · exact absurd (show nI 1 ≤ 0 from by rw [← show (xt_sN S 49 0 (nI 1)).1 49 0 = nI 1 from by simp [xt_sN]]; exact c23) (by decide)
    · refine xt_dconst0 C dX6_meanSquare_26 ?_
      exact xt_dret C dX6_meanSquare_27 ⟨by decide, by decide⟩ ⟨rfl, xt_mr_0 xt_mfr_rf⟩
  · exact absurd c8 hbad
theorem xt_pz {x : Int32} (h : ¬ x = 0) (h2 : ¬ x < 0) : 0 < x := by
  rw [Int32.lt_iff_toInt_lt] at h2 ⊢
  have h3 : ¬ x.toInt = (0 : Int32).toInt := fun z => h (Int32.toInt_inj.mp z)
  omega
theorem xt_sAq {T : xt_St} {i : Nat} {g : Nat → Int32} (h : T.2.1 i = g := by rfl) : xt_sA T i g = T := by rw [← h]; exact xt_sA_self
set_option maxRecDepth 20000 in
set_option maxHeartbeats 2000000 in
theorem ct_mplan {c r sd lv bo : Nat} (hM : xt_Mp S c r sd lv bo) {v k : Nat → Int32} (hvv : ∀ j, j < 256 → xt_mV S j = v j) (hkk : ∀ j, j < 256 → xt_mK S j = k j) (hvr : ∀ j, j < 256 → ∃ m, m ≤ 255 ∧ v j = nI m) (hk : ∀ j, j < 256 → k j = nI 0 ∨ k j = nI 1) {bg : Nat} (hbg : bg ≤ 9999) : xt_Ct E l yX6_plan cX6_plan 8 (some Jvm.ClassFile.FieldType.int) 5 109 0 0 [.ref (E.1 49), .int (nI bg)] S (xt_Ep (some (.int (xt_gr (xt_nt c r sd) (fun t j => xt_tW c r sd lv bo t j v k) (fun t j => xt_tB c r sd lv bo t (nI j) v k) (nI bg) 576).2)) (fun S9 => xt_mpl S S9 (xt_nt c r sd) (xt_gr (xt_nt c r sd) (fun t j => xt_tW c r sd lv bo t j v k) (fun t j => xt_tB c r sd lv bo t (nI j) v k) (nI bg) 576).1 (xt_nt c r sd) (fun t j => xt_tW c r sd lv bo t j v k))) := by
  refine xt_body (by decide +kernel) (xt_all rfl) (Nat.le_of_ble_eq_true rfl) (fun cx C hl9 => ?_)
  show xt_X E cx _ 0 0 0 [some (.ref (E.1 49)), some (.int (nI bg)), none, none, none, none, none, none] [] S
  have hM9 := hM
  obtain ⟨hc, hr, hs, hv, hb, b1, b2, b3, b4, b5, b6, b7⟩ := hM
  have hnt := xt_nt_b ⟨b1, b2⟩ ⟨b3, b4⟩ b5
  refine xt_aload_n C dX6_plan_0 rfl ?_
  refine xt_iconst (v := nI 0) C dX6_plan_1 rfl ?_
  refine xt_put (f := 0) C xt_u6 rfl (by decide) (xt_cl49 _ _) (by decide) tyX6 tyX6_ok nmX6 lkX6_74 rfl (tyX6_ok 0 (by decide)) rfl rfl (Nat.le_of_ble_eq_true rfl) rfl dX6_plan_2 ?_
  refine xt_iload_n C dX6_plan_5 rfl ?_
  refine xt_iconst (v := nI 0) C dX6_plan_6 rfl ?_
  refine xt_sipush (v := nI 9999) C dX6_plan_7 (by decide) ?_
  refine xt_cS C ms_X6_in lkX6_81 ct_in rfl (by decide) rfl (Nat.le_of_ble_eq_true rfl) dX6_plan_10 ?_
  refine xt_if_neB (tgt := 22) C dX6_plan_13 (by decide) (fun c13 => ?_) (fun c13 => ?_)
  · refine xt_aload_n C dX6_plan_22 rfl ?_
    refine xt_aload_n C dX6_plan_23 rfl ?_
    refine xt_cV C mv_X6_tiles lkX6_91 (ct_mtiles (by exact hM9)) rfl (by decide) (xt_cl49 _ _) rfl (by decide) rfl (Nat.le_of_ble_eq_true rfl) dX6_plan_24 ?_
    refine xt_put (f := 13) C xt_u6 rfl (by decide) (xt_cl49 _ _) (by decide) tyX6 tyX6_ok nmX6 lkX6_29 rfl (tyX6_ok 13 (by decide)) rfl rfl (Nat.le_of_ble_eq_true rfl) rfl dX6_plan_27 ?_
    refine xt_iload_n C dX6_plan_30 rfl ?_
    refine xt_istore_n (lo' := [_, _, _, _, _, _, _, _]) C dX6_plan_31 (Nat.le_of_ble_eq_true rfl) rfl rfl ?_
    refine xt_iconst (v := nI 0) C dX6_plan_32 rfl ?_
    refine xt_istore_n (lo' := [_, _, _, _, _, _, _, _]) C dX6_plan_33 (Nat.le_of_ble_eq_true rfl) rfl rfl ?_
    have loop1 : ∀ (d t : Nat) (T : xt_St), t ≤ (xt_nt c r sd) → (xt_mpl S T (xt_nt c r sd) (fun _ => 0) t (fun t j => xt_tW c r sd lv bo t j v k)) → (xt_nt c r sd) + 1 ≤ t + d → xt_X E cx (xt_ZM E cx 0 0 (xt_Ep (some (.int (xt_gr (xt_nt c r sd) (fun t j => xt_tW c r sd lv bo t j v k) (fun t j => xt_tB c r sd lv bo t (nI j) v k) (nI bg) 576).2)) (fun S9 => xt_mpl S S9 (xt_nt c r sd) (xt_gr (xt_nt c r sd) (fun t j => xt_tW c r sd lv bo t j v k) (fun t j => xt_tB c r sd lv bo t (nI j) v k) (nI bg) 576).1 (xt_nt c r sd) (fun t j => xt_tW c r sd lv bo t j v k)))) 0 0 34 [some (.ref (E.1 49)), some (.int (nI bg)), some (.int (nI bg)), some (.int (nI t)), none, none, none, none] [] T := by
      intro d
      induction d with
      | zero => intro t T h0t hpl h1t; exact absurd h1t (by omega)
      | succ d ih =>
        intro t T h0t hpl h1t
        have hvT : ∀ j, j < 256 → xt_mV T j = v j := fun j hj => by unfold xt_mV; rw [xt_mpl_50 hpl]; exact hvv j hj
        have hkkT : ∀ j, j < 256 → xt_mK T j = k j := fun j hj => by unfold xt_mK; rw [xt_mpl_50 hpl]; exact hkk j hj
        have hkT : ∀ j, j < 256 → xt_mK T j = nI 0 ∨ xt_mK T j = nI 1 := fun j hj => by rw [hkkT j hj]; exact hk j hj
        have hp13 := xt_mpl_n hpl
        refine xt_iload_n C dX6_plan_34 rfl ?_
        refine xt_aload_n C dX6_plan_35 rfl ?_
        refine xt_get (f := 13) C xt_u6 rfl (by decide) (xt_cl49 _ _) (by decide) lkX6_29 (xt_vI hp13) dX6_plan_36 ?_
        refine xt_icmp_geN (tgt := 67) C dX6_plan_39 (by decide) (by omega) (by omega) (fun c39 => ?_) (fun ht => ?_)
        · refine xt_iconst (v := nI 1) C dX6_plan_67 rfl ?_
          refine xt_istore_n (lo' := [_, _, _, _, _, _, _, _]) C dX6_plan_68 (Nat.le_of_ble_eq_true rfl) rfl rfl ?_
          have ex69 : ∀ (i : Nat) (T : xt_St), i ≤ 576 → (xt_mpl S T (xt_nt c r sd) (xt_gr (xt_nt c r sd) (fun t j => xt_tW c r sd lv bo t j v k) (fun t j => xt_tB c r sd lv bo t (nI j) v k) (nI bg) i).1 (xt_nt c r sd) (fun t j => xt_tW c r sd lv bo t j v k)) → xt_gt9 (xt_nt c r sd) (fun t j => xt_tW c r sd lv bo t j v k) (fun t j => xt_tB c r sd lv bo t (nI j) v k) (xt_gr (xt_nt c r sd) (fun t j => xt_tW c r sd lv bo t j v k) (fun t j => xt_tB c r sd lv bo t (nI j) v k) (nI bg) i) = none → xt_X E cx (xt_ZM E cx 0 0 (xt_Ep (some (.int (xt_gr (xt_nt c r sd) (fun t j => xt_tW c r sd lv bo t j v k) (fun t j => xt_tB c r sd lv bo t (nI j) v k) (nI bg) 576).2)) (fun S9 => xt_mpl S S9 (xt_nt c r sd) (xt_gr (xt_nt c r sd) (fun t j => xt_tW c r sd lv bo t j v k) (fun t j => xt_tB c r sd lv bo t (nI j) v k) (nI bg) 576).1 (xt_nt c r sd) (fun t j => xt_tW c r sd lv bo t j v k)))) 0 0 69 [some (.ref (E.1 49)), some (.int (nI bg)), some (.int (xt_gr (xt_nt c r sd) (fun t j => xt_tW c r sd lv bo t j v k) (fun t j => xt_tB c r sd lv bo t (nI j) v k) (nI bg) i).2), some (.int (nI 0)), none, none, none, none] [] T := by
            intro i T hi9 hpl hno
            refine xt_iload_n C dX6_plan_69 rfl ?_
            refine xt_if_eqN (tgt := 237) C dX6_plan_70 (by decide) (by omega) (fun c70 => ?_) (fun c70 => ?_)
            · refine xt_iload_n C dX6_plan_237 rfl ?_
              exact xt_iret C dX6_plan_238 ⟨by decide, by decide⟩ ⟨by rw [xt_gr_e hno 576 (by omega)], by rw [xt_gr_e hno 576 (by omega)]; exact hpl⟩
            · exact absurd c70 (by omega)
          have loop2 : ∀ (d i : Nat) (T : xt_St), i ≤ 576 → (xt_mpl S T (xt_nt c r sd) (xt_gr (xt_nt c r sd) (fun t j => xt_tW c r sd lv bo t j v k) (fun t j => xt_tB c r sd lv bo t (nI j) v k) (nI bg) i).1 (xt_nt c r sd) (fun t j => xt_tW c r sd lv bo t j v k)) → (xt_smL (xt_gr (xt_nt c r sd) (fun t j => xt_tW c r sd lv bo t j v k) (fun t j => xt_tB c r sd lv bo t (nI j) v k) (nI bg) i).1 (xt_nt c r sd) = i) → 576 + 1 ≤ i + d → xt_X E cx (xt_ZM E cx 0 0 (xt_Ep (some (.int (xt_gr (xt_nt c r sd) (fun t j => xt_tW c r sd lv bo t j v k) (fun t j => xt_tB c r sd lv bo t (nI j) v k) (nI bg) 576).2)) (fun S9 => xt_mpl S S9 (xt_nt c r sd) (xt_gr (xt_nt c r sd) (fun t j => xt_tW c r sd lv bo t j v k) (fun t j => xt_tB c r sd lv bo t (nI j) v k) (nI bg) 576).1 (xt_nt c r sd) (fun t j => xt_tW c r sd lv bo t j v k)))) 0 0 69 [some (.ref (E.1 49)), some (.int (nI bg)), some (.int (xt_gr (xt_nt c r sd) (fun t j => xt_tW c r sd lv bo t j v k) (fun t j => xt_tB c r sd lv bo t (nI j) v k) (nI bg) i).2), some (.int (nI 1)), none, none, none, none] [] T := by
            intro d
            induction d with
            | zero => intro i T h0i hpl hsm h1i; exact absurd h1i (by omega)
            | succ d ih =>
              intro i T h0i hpl hsm h1i
              obtain ⟨q, eq9⟩ : ∃ q, (xt_gr (xt_nt c r sd) (fun t j => xt_tW c r sd lv bo t j v k) (fun t j => xt_tB c r sd lv bo t (nI j) v k) (nI bg) i) = q := ⟨_, rfl⟩
              rw [eq9] at hpl hsm ⊢
              have hp13 := xt_mpl_n hpl
              refine xt_iload_n C dX6_plan_69 rfl ?_
              refine xt_if_eqN (tgt := 237) C dX6_plan_70 (by decide) (by omega) (fun c70 => ?_) (fun c70 => ?_)
              · exact absurd c70 (by decide)
              · refine xt_iconst (v := -1) C dX6_plan_73 rfl ?_
                refine xt_istore (lo' := [_, _, _, _, _, _, _, _]) C dX6_plan_74 (Nat.le_of_ble_eq_true rfl) rfl rfl ?_
                refine xt_iconst (v := nI 0) C dX6_plan_76 rfl ?_
                refine xt_istore (lo' := [_, _, _, _, _, _, _, _]) C dX6_plan_77 (Nat.le_of_ble_eq_true rfl) rfl rfl ?_
                refine xt_iconst (v := nI 0) C dX6_plan_79 rfl ?_
                refine xt_istore (lo' := [_, _, _, _, _, _, _, _]) C dX6_plan_80 (Nat.le_of_ble_eq_true rfl) rfl rfl ?_
                have scan : ∀ (d2 t : Nat) (z : Int32) (T : xt_St), t ≤ (xt_nt c r sd) → (xt_mpl S T (xt_nt c r sd) q.1 (xt_nt c r sd) (fun t j => xt_tW c r sd lv bo t j v k)) → (∀ b, (xt_it (xt_nx q.1 (fun t => (fun t j => xt_tW c r sd lv bo t j v k) t (q.1 t)) (fun t => (fun t j => xt_tB c r sd lv bo t (nI j) v k) t (q.1 t)) q.2) t (none, 0)).1 = some b → z = xt_tB c r sd lv bo b (nI (q.1 b)) v k) → (xt_nt c r sd) + 1 ≤ t + d2 → xt_X E cx (xt_ZM E cx 0 0 (xt_Ep (some (.int (xt_gr (xt_nt c r sd) (fun t j => xt_tW c r sd lv bo t j v k) (fun t j => xt_tB c r sd lv bo t (nI j) v k) (nI bg) 576).2)) (fun S9 => xt_mpl S S9 (xt_nt c r sd) (xt_gr (xt_nt c r sd) (fun t j => xt_tW c r sd lv bo t j v k) (fun t j => xt_tB c r sd lv bo t (nI j) v k) (nI bg) 576).1 (xt_nt c r sd) (fun t j => xt_tW c r sd lv bo t j v k)))) 0 0 82 [some (.ref (E.1 49)), some (.int (nI bg)), some (.int q.2), some (.int (nI 1)), some (.int (xt_oI (xt_it (xt_nx q.1 (fun t => (fun t j => xt_tW c r sd lv bo t j v k) t (q.1 t)) (fun t => (fun t j => xt_tB c r sd lv bo t (nI j) v k) t (q.1 t)) q.2) t (none, 0)).1)), some (.int z), some (.int (nI t)), none] [] T := by
                  intro d2
                  induction d2 with
                  | zero => intro t z T h0t hpl hz h1t; exact absurd h1t (by omega)
                  | succ d2 ih2 =>
                    intro t z T h0t hpl hz h1t
                    have hvT : ∀ j, j < 256 → xt_mV T j = v j := fun j hj => by unfold xt_mV; rw [xt_mpl_50 hpl]; exact hvv j hj
                    have hkkT : ∀ j, j < 256 → xt_mK T j = k j := fun j hj => by unfold xt_mK; rw [xt_mpl_50 hpl]; exact hkk j hj
                    have hkT : ∀ j, j < 256 → xt_mK T j = nI 0 ∨ xt_mK T j = nI 1 := fun j hj => by rw [hkkT j hj]; exact hk j hj
                    have hp13 := xt_mpl_n hpl
                    have hqt := hpl.2.1 t
                    have hxi := xt_nx_in (ly := q.1) (df := fun t => (fun t j => xt_tW c r sd lv bo t j v k) t (q.1 t)) (cs := fun t => (fun t j => xt_tB c r sd lv bo t (nI j) v k) t (q.1 t)) (left := q.2) t
                    have hx0 : ¬ (xt_it (xt_nx q.1 (fun t => (fun t j => xt_tW c r sd lv bo t j v k) t (q.1 t)) (fun t => (fun t j => xt_tB c r sd lv bo t (nI j) v k) t (q.1 t)) q.2) t (none, 0)).2 < 0 := by
                      cases e9 : (xt_it (xt_nx q.1 (fun t => (fun t j => xt_tW c r sd lv bo t j v k) t (q.1 t)) (fun t => (fun t j => xt_tB c r sd lv bo t (nI j) v k) t (q.1 t)) q.2) t (none, 0)).1 with
                      | none => rw [hxi.1 e9]; decide
                      | some b9 => rw [(hxi.2 b9 e9).1]; exact xt_tW_p
                    refine xt_iload C dX6_plan_82 rfl ?_
                    refine xt_aload_n C dX6_plan_84 rfl ?_
                    refine xt_get (f := 13) C xt_u6 rfl (by decide) (xt_cl49 _ _) (by decide) lkX6_29 (xt_vI hp13) dX6_plan_85 ?_
                    refine xt_icmp_geN (tgt := 180) C dX6_plan_88 (by decide) (by omega) (by omega) (fun c88 => ?_) (fun ht => ?_)
                    · have ht9 : t = (xt_nt c r sd) := by omega
                      subst ht9
                      refine xt_iload C dX6_plan_180 rfl ?_
                      refine xt_if_lt (tgt := 189) C dX6_plan_182 (by decide) (fun c182 => ?_) (fun c182 => ?_)
                      · have hno : xt_gt9 (xt_nt c r sd) (fun t j => xt_tW c r sd lv bo t j v k) (fun t j => xt_tB c r sd lv bo t (nI j) v k) q = none := xt_oI_neg c182 (fun q8 hq8 => by have := (hxi.2 q8 hq8).2; omega)
                        refine xt_iconst (v := nI 0) C dX6_plan_189 rfl ?_
                        refine xt_istore_n (lo' := [_, _, _, _, _, _, _, _]) C dX6_plan_190 (Nat.le_of_ble_eq_true rfl) rfl rfl ?_
                        refine xt_iload_n C dX6_plan_191 rfl ?_
                        refine xt_if_neN (tgt := 198) C dX6_plan_192 (by decide) (by decide) (fun c192 => absurd c192 (by decide)) (fun _ => ?_)
                        refine xt_goto (tgt := 69) C dX6_plan_195 (by decide) ?_
                        have h9 := ex69 i _ (by omega) (by rw [eq9]; exact hpl) (by rw [eq9]; exact hno)
                        rw [eq9] at h9
                        exact xt_fg (by repeat' constructor) h9
                      · obtain ⟨u, htt⟩ := xt_oI_pos c182
                        obtain ⟨hu, hl9, hc9⟩ := xt_nx_some _ htt
                        rw [htt, show xt_oI (some u) = nI u from rfl]
                        have hz9 : z = xt_tB c r sd lv bo u (nI (q.1 u)) v k := hz u htt
                        subst hz9
                        have hlu := xt_smL_lt hpl.2.1 hl9 (xt_nt c r sd) hu
                        refine xt_iconst (v := nI 1) C dX6_plan_185 rfl ?_
                        refine xt_goto (tgt := 190) C dX6_plan_186 (by decide) ?_
                        refine xt_istore_n (lo' := [_, _, _, _, _, _, _, _]) C dX6_plan_190 (Nat.le_of_ble_eq_true rfl) rfl rfl ?_
                        refine xt_iload_n C dX6_plan_191 rfl ?_
                        refine xt_if_neN (tgt := 198) C dX6_plan_192 (by decide) (by decide) (fun _ => ?_) (fun c192 => absurd c192 (by decide))
                        refine xt_iload_n C dX6_plan_198 rfl ?_
                        refine xt_iload C dX6_plan_199 rfl ?_
                        refine xt_isub C dX6_plan_201 ?_
                        refine xt_istore_n (lo' := [_, _, _, _, _, _, _, _]) C dX6_plan_202 (Nat.le_of_ble_eq_true rfl) rfl rfl ?_
                        refine xt_aload_n C dX6_plan_203 rfl ?_
                        refine xt_get (f := 14) C xt_u6 rfl (by decide) (xt_cl49 _ _) (by decide) lkX6_32 rfl dX6_plan_204 ?_
                        refine xt_iload C dX6_plan_207 rfl ?_
                        refine xt_dup2 C dX6_plan_209 rfl rfl ?_
                        refine xt_ialdN C (by decide) (xt_cl55 _) (by omega) (by decide) (hpl.2.2 u (by omega)).1 dX6_plan_210 ?_
                        refine xt_iconst (v := nI 1) C dX6_plan_211 rfl ?_
                        refine xt_iaddN C dX6_plan_212 ?_
                        refine xt_iastN C (by decide) (xt_cl55 _) (by omega) (by decide) dX6_plan_213 ?_
                        refine xt_aload_n C dX6_plan_214 rfl ?_
                        refine xt_get (f := 15) C xt_u6 rfl (by decide) (xt_cl49 _ _) (by decide) lkX6_35 rfl dX6_plan_215 ?_
                        refine xt_iload C dX6_plan_218 rfl ?_
                        refine xt_aload_n C dX6_plan_220 rfl ?_
                        refine xt_iload C dX6_plan_221 rfl ?_
                        refine xt_aload_n C dX6_plan_223 rfl ?_
                        refine xt_get (f := 14) C xt_u6 rfl (by decide) (xt_cl49 _ _) (by decide) lkX6_32 rfl dX6_plan_224 ?_
                        refine xt_iload C dX6_plan_227 rfl ?_
                        refine xt_ialdN C (by decide) (xt_cl55 _) (by omega) (by decide) (show (xt_sA T 55 (upd (T.2.1 55) u (nI (q.1 u + 1)))).2.1 55 u = nI (q.1 u + 1) from by rw [xt_sA_s, xt_up_s]) dX6_plan_229 ?_
                        refine xt_cVp C mv_X6_worstWith lkX6_220 (ct_worstWith (n := (q.1 u + 1)) (S := (xt_sA T 55 (upd (T.2.1 55) u (nI (q.1 u + 1))))) (by unfold xt_Mp; rw [xt_sA_n (by decide)]; exact xt_mpl_M hpl hM9) hu (fun j hj => by unfold xt_mV; rw [xt_sA_n (by decide)]; exact hvT j hj) (fun j hj => by unfold xt_mK; rw [xt_sA_n (by decide)]; exact hkkT j hj) hvr hk (by omega)) rfl (by decide) (xt_cl49 _ _) rfl (by decide) rfl (Nat.le_of_ble_eq_true rfl) dX6_plan_230 (fun S9 hq9 => ?_)
                        have hfrw := hq9
                        refine xt_iastN C (by decide) (xt_cl56 _) (by omega) (by decide) dX6_plan_233 ?_
                        refine xt_goto (tgt := 69) C dX6_plan_234 (by decide) ?_
                        have hgs : (xt_gr (xt_nt c r sd) (fun t j => xt_tW c r sd lv bo t j v k) (fun t j => xt_tB c r sd lv bo t (nI j) v k) (nI bg) (i + 1)) = (fun i9 => if i9 = u then q.1 u + 1 else q.1 i9, q.2 - xt_tB c r sd lv bo u (nI (q.1 u)) v k) := (show xt_gs (xt_nt c r sd) (fun t j => xt_tW c r sd lv bo t j v k) (fun t j => xt_tB c r sd lv bo t (nI j) v k) (xt_gr (xt_nt c r sd) (fun t j => xt_tW c r sd lv bo t j v k) (fun t j => xt_tB c r sd lv bo t (nI j) v k) (nI bg) i) = _ by rw [eq9]; exact xt_gs1 htt)
                        have hpl9 := xt_mpl_a (ly' := fun i9 => if i9 = u then q.1 u + 1 else q.1 i9) (m' := (xt_nt c r sd)) hpl (by omega) (fun i9 => rfl) (fun j hj => Or.inl hj) hfrw rfl
                        have h9 := ih (i + 1) _ (by omega) (by rw [hgs]; exact hpl9) (by rw [hgs]; have h8 := (xt_smL_u (f := q.1) (g := fun i9 => if i9 = u then q.1 u + 1 else q.1 i9) (u := u) (fun i9 => rfl) (xt_nt c r sd)).2 hu; rw [h8, hsm]) (by omega)
                        rw [hgs] at h9
                        exact xt_fg (by repeat' constructor) h9
                    · refine xt_aload_n C dX6_plan_91 rfl ?_
                      refine xt_get (f := 14) C xt_u6 rfl (by decide) (xt_cl49 _ _) (by decide) lkX6_32 rfl dX6_plan_92 ?_
                      refine xt_iload C dX6_plan_95 rfl ?_
                      refine xt_ialdN C (by decide) (xt_cl55 _) (by omega) (by decide) (hpl.2.2 t (by omega)).1 dX6_plan_97 ?_
                      refine xt_bipush (v := nI 9) C dX6_plan_98 (by decide) ?_
                      refine xt_icmp_eqN (tgt := 174) C dX6_plan_100 (by decide) (by omega) (by omega) (fun c100 => ?_) (fun c100 => ?_)
                      · have hnx : (xt_it (xt_nx q.1 (fun t => (fun t j => xt_tW c r sd lv bo t j v k) t (q.1 t)) (fun t => (fun t j => xt_tB c r sd lv bo t (nI j) v k) t (q.1 t)) q.2) (t + 1) (none, 0)) = (xt_it (xt_nx q.1 (fun t => (fun t j => xt_tW c r sd lv bo t j v k) t (q.1 t)) (fun t => (fun t j => xt_tB c r sd lv bo t (nI j) v k) t (q.1 t)) q.2) t (none, 0)) := xt_nx0 (fun z9 => by have := z9.1; omega)
                        refine xt_iincN (z := 1) (lo' := [_, _, _, _, _, _, _, _]) C dX6_plan_174 rfl rfl rfl ?_
                        refine xt_goto (tgt := 82) C dX6_plan_177 (by decide) ?_
                        first
                        | (have h9 := ih2 (t + 1) z _ (by omega) hpl (by rw [hnx]; exact hz) (by omega)
                           rw [hnx] at h9
                           exact xt_fg (by repeat' constructor) h9)
                        | (have h9 := ih2 (t + 1) (xt_tB c r sd lv bo t (nI (q.1 t)) v k) _ (by omega) hpl (by rw [hnx]; intro b9 e9; cases e9; rfl) (by omega)
                           rw [hnx] at h9
                           exact xt_fg (by repeat' constructor) h9)
                      · refine xt_aload_n C dX6_plan_103 rfl ?_
                        refine xt_get (f := 15) C xt_u6 rfl (by decide) (xt_cl49 _ _) (by decide) lkX6_35 rfl dX6_plan_104 ?_
                        refine xt_iload C dX6_plan_107 rfl ?_
                        refine xt_ialdN C (by decide) (xt_cl56 _) (by omega) (by decide) (hpl.2.2 t (by omega)).2 dX6_plan_109 ?_
                        refine xt_if_eq (tgt := 174) C dX6_plan_110 (by decide) (fun c110 => ?_) (fun c110 => ?_)
                        · have hnx : (xt_it (xt_nx q.1 (fun t => (fun t j => xt_tW c r sd lv bo t j v k) t (q.1 t)) (fun t => (fun t j => xt_tB c r sd lv bo t (nI j) v k) t (q.1 t)) q.2) (t + 1) (none, 0)) = (xt_it (xt_nx q.1 (fun t => (fun t j => xt_tW c r sd lv bo t j v k) t (q.1 t)) (fun t => (fun t j => xt_tB c r sd lv bo t (nI j) v k) t (q.1 t)) q.2) t (none, 0)) := xt_nx0 (fun z9 => hx0 (by have h8 := z9.2.2; have c9 := c110; dsimp only at h8 c9; rw [c9] at h8; exact h8))
                          refine xt_iincN (z := 1) (lo' := [_, _, _, _, _, _, _, _]) C dX6_plan_174 rfl rfl rfl ?_
                          refine xt_goto (tgt := 82) C dX6_plan_177 (by decide) ?_
                          first
                          | (have h9 := ih2 (t + 1) z _ (by omega) hpl (by rw [hnx]; exact hz) (by omega)
                             rw [hnx] at h9
                             exact xt_fg (by repeat' constructor) h9)
                          | (have h9 := ih2 (t + 1) (xt_tB c r sd lv bo t (nI (q.1 t)) v k) _ (by omega) hpl (by rw [hnx]; intro b9 e9; cases e9; rfl) (by omega)
                             rw [hnx] at h9
                             exact xt_fg (by repeat' constructor) h9)
                        · refine xt_iload C dX6_plan_113 rfl ?_
                          refine xt_if_lt (tgt := 138) C dX6_plan_115 (by decide) (fun c115 => ?_) (fun c115 => ?_)
                          · have hxl : (xt_it (xt_nx q.1 (fun t => (fun t j => xt_tW c r sd lv bo t j v k) t (q.1 t)) (fun t => (fun t j => xt_tB c r sd lv bo t (nI j) v k) t (q.1 t)) q.2) t (none, 0)).2 < xt_tW c r sd lv bo t (q.1 t) v k := by
                              rw [hxi.1 (xt_oI_neg c115 (fun q8 hq8 => by have := (hxi.2 q8 hq8).2; omega))]
                              exact xt_pz c110 xt_tW_p
                            refine xt_aload_n C dX6_plan_138 rfl ?_
                            refine xt_iload C dX6_plan_139 rfl ?_
                            refine xt_cVpn C mv_X6_looks lkX6_169 (ct_looks (xt_mpl_M hpl hM9) ht hkT) rfl (by decide) (xt_cl49 _ _) rfl (by decide) rfl (Nat.le_of_ble_eq_true rfl) dX6_plan_141 (fun S9 hq9 => ?_)
                            obtain ⟨hfr9, hL0⟩ := hq9
                            have hL := xt_ML_c ⟨b1, b2⟩ ⟨b3, b4⟩ b5 ht hvT hkkT hL0
                            have hpl := xt_mpl_fr hpl hfr9
                            rename xt_St => T1
                            refine xt_aload_n C dX6_plan_144 rfl ?_
                            refine xt_aload_n C dX6_plan_145 rfl ?_
                            refine xt_get (f := 14) C xt_u6 rfl (by decide) (xt_cl49 _ _) (by decide) lkX6_32 rfl dX6_plan_146 ?_
                            refine xt_iload C dX6_plan_149 rfl ?_
                            refine xt_ialdN C (by decide) (xt_cl55 _) (by omega) (by decide) (hpl.2.2 t (by omega)).1 dX6_plan_151 ?_
                            refine xt_cV C mv_X6_bitsOf lkX6_190 (ct_bitsOf (xt_mpl_M hpl hM9) ht hL (ly := q.1 t) (by have := hpl.2.1 t; omega)) rfl (by decide) (xt_cl49 _ _) rfl (by decide) rfl (Nat.le_of_ble_eq_true rfl) dX6_plan_152 ?_
                            refine xt_istore (lo' := [_, _, _, _, _, _, _, _]) C dX6_plan_155 (Nat.le_of_ble_eq_true rfl) rfl rfl ?_
                            refine xt_iload C dX6_plan_157 rfl ?_
                            refine xt_iload_n C dX6_plan_159 rfl ?_
                            refine xt_icmp_le (tgt := 166) C dX6_plan_160 (by decide) (fun c160 => ?_) (fun c160 => ?_)
                            · have hnx : (xt_it (xt_nx q.1 (fun t => (fun t j => xt_tW c r sd lv bo t j v k) t (q.1 t)) (fun t => (fun t j => xt_tB c r sd lv bo t (nI j) v k) t (q.1 t)) q.2) (t + 1) (none, 0)) = (some t, xt_tW c r sd lv bo t (q.1 t) v k) := xt_nx1 ⟨by have := hpl.2.1 t; omega, Int32.not_lt.mpr c160, hxl⟩
                              refine xt_iload C dX6_plan_166 rfl ?_
                              refine xt_istore (lo' := [_, _, _, _, _, _, _, _]) C dX6_plan_168 (Nat.le_of_ble_eq_true rfl) rfl rfl ?_
                              refine xt_iload C dX6_plan_170 rfl ?_
                              refine xt_istore (lo' := [_, _, _, _, _, _, _, _]) C dX6_plan_172 (Nat.le_of_ble_eq_true rfl) rfl rfl ?_
                              refine xt_iincN (z := 1) (lo' := [_, _, _, _, _, _, _, _]) C dX6_plan_174 rfl rfl rfl ?_
                              refine xt_goto (tgt := 82) C dX6_plan_177 (by decide) ?_
                              first
                              | (have h9 := ih2 (t + 1) z _ (by omega) hpl (by rw [hnx]; exact hz) (by omega)
                                 rw [hnx] at h9
                                 exact xt_fg (by repeat' constructor) h9)
                              | (have h9 := ih2 (t + 1) (xt_tB c r sd lv bo t (nI (q.1 t)) v k) _ (by omega) hpl (by rw [hnx]; intro b9 e9; cases e9; rfl) (by omega)
                                 rw [hnx] at h9
                                 exact xt_fg (by repeat' constructor) h9)
                            · have hnx : (xt_it (xt_nx q.1 (fun t => (fun t j => xt_tW c r sd lv bo t j v k) t (q.1 t)) (fun t => (fun t j => xt_tB c r sd lv bo t (nI j) v k) t (q.1 t)) q.2) (t + 1) (none, 0)) = (xt_it (xt_nx q.1 (fun t => (fun t j => xt_tW c r sd lv bo t j v k) t (q.1 t)) (fun t => (fun t j => xt_tB c r sd lv bo t (nI j) v k) t (q.1 t)) q.2) t (none, 0)) := xt_nx0 (fun z9 => z9.2.1 (Int32.not_le.mp c160))
                              refine xt_goto (tgt := 174) C dX6_plan_163 (by decide) ?_
                              refine xt_iincN (z := 1) (lo' := [_, _, _, _, _, _, _, _]) C dX6_plan_174 rfl rfl rfl ?_
                              refine xt_goto (tgt := 82) C dX6_plan_177 (by decide) ?_
                              first
                              | (have h9 := ih2 (t + 1) z _ (by omega) hpl (by rw [hnx]; exact hz) (by omega)
                                 rw [hnx] at h9
                                 exact xt_fg (by repeat' constructor) h9)
                              | (have h9 := ih2 (t + 1) (xt_tB c r sd lv bo t (nI (q.1 t)) v k) _ (by omega) hpl (by rw [hnx]; intro b9 e9; cases e9; rfl) (by omega)
                                 rw [hnx] at h9
                                 exact xt_fg (by repeat' constructor) h9)
                          · obtain ⟨b, hob⟩ := xt_oI_pos c115
                            have hbn := (hxi.2 b hob).2
                            have hxb := (hxi.2 b hob).1
                            dsimp only at hxb
                            refine xt_aload_n C dX6_plan_118 rfl ?_
                            refine xt_get (f := 15) C xt_u6 rfl (by decide) (xt_cl49 _ _) (by decide) lkX6_35 rfl dX6_plan_119 ?_
                            refine xt_iload C dX6_plan_122 rfl ?_
                            refine xt_ialdN C (by decide) (xt_cl56 _) (by omega) (by decide) (hpl.2.2 t (by omega)).2 dX6_plan_124 ?_
                            refine xt_aload_n C dX6_plan_125 rfl ?_
                            refine xt_get (f := 15) C xt_u6 rfl (by decide) (xt_cl49 _ _) (by decide) lkX6_35 rfl dX6_plan_126 ?_
                            refine xt_iload C dX6_plan_129 rfl ?_
                            rw [show xt_oI (xt_it (xt_nx q.1 (fun t => (fun t j => xt_tW c r sd lv bo t j v k) t (q.1 t)) (fun t => (fun t j => xt_tB c r sd lv bo t (nI j) v k) t (q.1 t)) q.2) t (none, 0)).1 = nI b from by rw [hob]; rfl]
                            refine xt_ialdN C (by decide) (xt_cl56 _) (by omega) (by decide) (hpl.2.2 b (by omega)).2 dX6_plan_131 ?_
                            rw [show some (Value.int (nI b)) = some (Value.int (xt_oI (xt_it (xt_nx q.1 (fun t => (fun t j => xt_tW c r sd lv bo t j v k) t (q.1 t)) (fun t => (fun t j => xt_tB c r sd lv bo t (nI j) v k) t (q.1 t)) q.2) t (none, 0)).1)) from by rw [hob]; rfl]
                            refine xt_icmp_gt (tgt := 138) C dX6_plan_132 (by decide) (fun c132 => ?_) (fun c132 => ?_)
                            · have hxl : (xt_it (xt_nx q.1 (fun t => (fun t j => xt_tW c r sd lv bo t j v k) t (q.1 t)) (fun t => (fun t j => xt_tB c r sd lv bo t (nI j) v k) t (q.1 t)) q.2) t (none, 0)).2 < xt_tW c r sd lv bo t (q.1 t) v k := by
                                rw [hxb]
                                exact c132
                              refine xt_aload_n C dX6_plan_138 rfl ?_
                              refine xt_iload C dX6_plan_139 rfl ?_
                              refine xt_cVpn C mv_X6_looks lkX6_169 (ct_looks (xt_mpl_M hpl hM9) ht hkT) rfl (by decide) (xt_cl49 _ _) rfl (by decide) rfl (Nat.le_of_ble_eq_true rfl) dX6_plan_141 (fun S9 hq9 => ?_)
                              obtain ⟨hfr9, hL0⟩ := hq9
                              have hL := xt_ML_c ⟨b1, b2⟩ ⟨b3, b4⟩ b5 ht hvT hkkT hL0
                              have hpl := xt_mpl_fr hpl hfr9
                              rename xt_St => T1
                              refine xt_aload_n C dX6_plan_144 rfl ?_
                              refine xt_aload_n C dX6_plan_145 rfl ?_
                              refine xt_get (f := 14) C xt_u6 rfl (by decide) (xt_cl49 _ _) (by decide) lkX6_32 rfl dX6_plan_146 ?_
                              refine xt_iload C dX6_plan_149 rfl ?_
                              refine xt_ialdN C (by decide) (xt_cl55 _) (by omega) (by decide) (hpl.2.2 t (by omega)).1 dX6_plan_151 ?_
                              refine xt_cV C mv_X6_bitsOf lkX6_190 (ct_bitsOf (xt_mpl_M hpl hM9) ht hL (ly := q.1 t) (by have := hpl.2.1 t; omega)) rfl (by decide) (xt_cl49 _ _) rfl (by decide) rfl (Nat.le_of_ble_eq_true rfl) dX6_plan_152 ?_
                              refine xt_istore (lo' := [_, _, _, _, _, _, _, _]) C dX6_plan_155 (Nat.le_of_ble_eq_true rfl) rfl rfl ?_
                              refine xt_iload C dX6_plan_157 rfl ?_
                              refine xt_iload_n C dX6_plan_159 rfl ?_
                              refine xt_icmp_le (tgt := 166) C dX6_plan_160 (by decide) (fun c160 => ?_) (fun c160 => ?_)
                              · have hnx : (xt_it (xt_nx q.1 (fun t => (fun t j => xt_tW c r sd lv bo t j v k) t (q.1 t)) (fun t => (fun t j => xt_tB c r sd lv bo t (nI j) v k) t (q.1 t)) q.2) (t + 1) (none, 0)) = (some t, xt_tW c r sd lv bo t (q.1 t) v k) := xt_nx1 ⟨by have := hpl.2.1 t; omega, Int32.not_lt.mpr c160, hxl⟩
                                refine xt_iload C dX6_plan_166 rfl ?_
                                refine xt_istore (lo' := [_, _, _, _, _, _, _, _]) C dX6_plan_168 (Nat.le_of_ble_eq_true rfl) rfl rfl ?_
                                refine xt_iload C dX6_plan_170 rfl ?_
                                refine xt_istore (lo' := [_, _, _, _, _, _, _, _]) C dX6_plan_172 (Nat.le_of_ble_eq_true rfl) rfl rfl ?_
                                refine xt_iincN (z := 1) (lo' := [_, _, _, _, _, _, _, _]) C dX6_plan_174 rfl rfl rfl ?_
                                refine xt_goto (tgt := 82) C dX6_plan_177 (by decide) ?_
                                first
                                | (have h9 := ih2 (t + 1) z _ (by omega) hpl (by rw [hnx]; exact hz) (by omega)
                                   rw [hnx] at h9
                                   exact xt_fg (by repeat' constructor) h9)
                                | (have h9 := ih2 (t + 1) (xt_tB c r sd lv bo t (nI (q.1 t)) v k) _ (by omega) hpl (by rw [hnx]; intro b9 e9; cases e9; rfl) (by omega)
                                   rw [hnx] at h9
                                   exact xt_fg (by repeat' constructor) h9)
                              · have hnx : (xt_it (xt_nx q.1 (fun t => (fun t j => xt_tW c r sd lv bo t j v k) t (q.1 t)) (fun t => (fun t j => xt_tB c r sd lv bo t (nI j) v k) t (q.1 t)) q.2) (t + 1) (none, 0)) = (xt_it (xt_nx q.1 (fun t => (fun t j => xt_tW c r sd lv bo t j v k) t (q.1 t)) (fun t => (fun t j => xt_tB c r sd lv bo t (nI j) v k) t (q.1 t)) q.2) t (none, 0)) := xt_nx0 (fun z9 => z9.2.1 (Int32.not_le.mp c160))
                                refine xt_goto (tgt := 174) C dX6_plan_163 (by decide) ?_
                                refine xt_iincN (z := 1) (lo' := [_, _, _, _, _, _, _, _]) C dX6_plan_174 rfl rfl rfl ?_
                                refine xt_goto (tgt := 82) C dX6_plan_177 (by decide) ?_
                                first
                                | (have h9 := ih2 (t + 1) z _ (by omega) hpl (by rw [hnx]; exact hz) (by omega)
                                   rw [hnx] at h9
                                   exact xt_fg (by repeat' constructor) h9)
                                | (have h9 := ih2 (t + 1) (xt_tB c r sd lv bo t (nI (q.1 t)) v k) _ (by omega) hpl (by rw [hnx]; intro b9 e9; cases e9; rfl) (by omega)
                                   rw [hnx] at h9
                                   exact xt_fg (by repeat' constructor) h9)
                            · have hnx : (xt_it (xt_nx q.1 (fun t => (fun t j => xt_tW c r sd lv bo t j v k) t (q.1 t)) (fun t => (fun t j => xt_tB c r sd lv bo t (nI j) v k) t (q.1 t)) q.2) (t + 1) (none, 0)) = (xt_it (xt_nx q.1 (fun t => (fun t j => xt_tW c r sd lv bo t j v k) t (q.1 t)) (fun t => (fun t j => xt_tB c r sd lv bo t (nI j) v k) t (q.1 t)) q.2) t (none, 0)) := xt_nx0 (fun z9 => c132 (by have h8 := z9.2.2; dsimp only at h8; rw [hxb] at h8; exact h8))
                              refine xt_goto (tgt := 174) C dX6_plan_135 (by decide) ?_
                              refine xt_iincN (z := 1) (lo' := [_, _, _, _, _, _, _, _]) C dX6_plan_174 rfl rfl rfl ?_
                              refine xt_goto (tgt := 82) C dX6_plan_177 (by decide) ?_
                              first
                              | (have h9 := ih2 (t + 1) z _ (by omega) hpl (by rw [hnx]; exact hz) (by omega)
                                 rw [hnx] at h9
                                 exact xt_fg (by repeat' constructor) h9)
                              | (have h9 := ih2 (t + 1) (xt_tB c r sd lv bo t (nI (q.1 t)) v k) _ (by omega) hpl (by rw [hnx]; intro b9 e9; cases e9; rfl) (by omega)
                                 rw [hnx] at h9
                                 exact xt_fg (by repeat' constructor) h9)
                exact xt_fg (by repeat' constructor) (scan ((xt_nt c r sd) + 1) 0 (nI 0) T (by omega) hpl (fun b h => by cases h) (by omega))
          have ht9 : t = (xt_nt c r sd) := by omega
          subst ht9
          have hz0 : ∀ n, xt_smL (fun _ => 0) n = 0 := by
            intro n
            induction n with
            | zero => rfl
            | succ n ih => show xt_smL (fun _ => 0) n + 0 = 0; rw [ih]
          exact xt_fg (by repeat' constructor) (loop2 (576 + 1) 0 T (by omega) hpl (hz0 _) (by omega))
        · refine xt_aload_n C dX6_plan_42 rfl ?_
          refine xt_get (f := 14) C xt_u6 rfl (by decide) (xt_cl49 _ _) (by decide) lkX6_32 rfl dX6_plan_43 ?_
          refine xt_iload_n C dX6_plan_46 rfl ?_
          refine xt_iconst (v := nI 0) C dX6_plan_47 rfl ?_
          refine xt_iastN C (by decide) (xt_cl55 _) (by omega) (by decide) dX6_plan_48 ?_
          refine xt_aload_n C dX6_plan_49 rfl ?_
          refine xt_get (f := 15) C xt_u6 rfl (by decide) (xt_cl49 _ _) (by decide) lkX6_35 rfl dX6_plan_50 ?_
          refine xt_iload_n C dX6_plan_53 rfl ?_
          refine xt_aload_n C dX6_plan_54 rfl ?_
          refine xt_iload_n C dX6_plan_55 rfl ?_
          refine xt_iconst (v := nI 0) C dX6_plan_56 rfl ?_
          refine xt_cVp C mv_X6_worstWith lkX6_220 (ct_worstWith (n := 0) (S := (xt_sA T 55 (upd (T.2.1 55) t (nI 0)))) (by unfold xt_Mp; rw [xt_sA_n (by decide)]; exact xt_mpl_M hpl hM9) ht (fun j hj => by unfold xt_mV; rw [xt_sA_n (by decide)]; exact hvT j hj) (fun j hj => by unfold xt_mK; rw [xt_sA_n (by decide)]; exact hkkT j hj) hvr hk (by omega)) rfl (by decide) (xt_cl49 _ _) rfl (by decide) rfl (Nat.le_of_ble_eq_true rfl) dX6_plan_57 (fun S9 hq9 => ?_)
          have hfrw := hq9
          refine xt_iastN C (by decide) (xt_cl56 _) (by omega) (by decide) dX6_plan_60 ?_
          refine xt_iincN (z := 1) (lo' := [_, _, _, _, _, _, _, _]) C dX6_plan_61 rfl rfl rfl ?_
          refine xt_goto (tgt := 34) C dX6_plan_64 (by decide) ?_
          have hpl9 := xt_mpl_a (t := t) (ly' := fun _ => 0) (m' := t + 1) hpl (by omega) (fun i9 => by split <;> rfl) (fun j hj => by omega) hfrw rfl
          exact xt_fg (by repeat' constructor) (ih (t + 1) _ (by omega) hpl9 (by omega))
    exact xt_fg (by repeat' constructor) (loop1 ((xt_nt c r sd) + 1) 0 _ (by omega) ⟨⟨S.2.1 55, S.2.1 56, by rw [xt_sAq, xt_sAq]; exact xt_mfr_rf⟩, fun _ => Nat.zero_le _, fun t h => absurd h (Nat.not_lt_zero _)⟩ (by omega))
  · exact absurd ⟨nI_pos' (by omega), nI_le hbg (by omega)⟩ c13
set_option maxRecDepth 20000 in
set_option maxHeartbeats 2000000 in
theorem ct_mplan_b {a : Int32} (hbad : ¬ (nI 0 ≤ a ∧ a ≤ nI 9999)) : xt_Ct E l yX6_plan cX6_plan 8 (some Jvm.ClassFile.FieldType.int) 5 109 0 0 [.ref (E.1 49), .int a] S (xt_Ep (some (.int (nI 0))) (xt_mr S 1)) := by
  refine xt_body (by decide +kernel) (xt_all rfl) (Nat.le_of_ble_eq_true rfl) (fun cx C hl9 => ?_)
  show xt_X E cx _ 0 0 0 [some (.ref (E.1 49)), some (.int a), none, none, none, none, none, none] [] S
  refine xt_aload_n C dX6_plan_0 rfl ?_
  refine xt_iconst (v := nI 0) C dX6_plan_1 rfl ?_
  refine xt_put (f := 0) C xt_u6 rfl (by decide) (xt_cl49 _ _) (by decide) tyX6 tyX6_ok nmX6 lkX6_74 rfl (tyX6_ok 0 (by decide)) rfl rfl (Nat.le_of_ble_eq_true rfl) rfl dX6_plan_2 ?_
  refine xt_iload_n C dX6_plan_5 rfl ?_
  refine xt_iconst (v := nI 0) C dX6_plan_6 rfl ?_
  refine xt_sipush (v := nI 9999) C dX6_plan_7 (by decide) ?_
  refine xt_cS C ms_X6_in lkX6_81 ct_in rfl (by decide) rfl (Nat.le_of_ble_eq_true rfl) dX6_plan_10 ?_
  refine xt_if_neB (tgt := 22) C dX6_plan_13 (by decide) (fun c13 => ?_) (fun c13 => ?_)
  · exact absurd c13 hbad
  · refine xt_aload_n C dX6_plan_16 rfl ?_
    refine xt_iconst (v := nI 1) C dX6_plan_17 rfl ?_
    refine xt_cV C mv_X6_raises lkX6_142 ct_mraises rfl (by decide) (xt_cl49 _ _) rfl (by decide) rfl (Nat.le_of_ble_eq_true rfl) dX6_plan_18 ?_
    exact xt_iret C dX6_plan_21 ⟨by decide, by decide⟩ ⟨rfl, xt_mr_x xt_mfr_rf⟩
end XM17
