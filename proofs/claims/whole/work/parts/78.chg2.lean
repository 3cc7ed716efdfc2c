/-! raise, swap, soften; undo, the snapshot, feed, plan, both sides -/
section XL5
variable {E : xt_Ev} {l : Launch} {S : xt_St} {A A' : xt_As} {c r sd lv bo nx : Nat}
/-- another change, with an answer -/
theorem xt_Sp_g0 {W : (Option Value → xt_St → Prop) → Prop} {M : xt_St → (Option Value → xt_St → Prop) → Prop} {S1 : xt_St → Prop} (x : Int32) (hA : xt_GA A') (hW : W (fun v S' => v = some (.int (nI 0)) ∧ ∃ T, S1 T ∧ S' = xt_o1 T x)) (hc : ∀ T, S1 T → xt_mf S T ∧ xt_CR T A')
    (hM : ∀ S', xt_mf S S' → ∃ P, M S' (xt_Ep (some (.int x)) P) ∧ ∀ S9, P S9 → xt_cf S' S9 ∧ S9.1 49 0 = nI 0 ∧ S9.2.2.1 67 = S'.2.2.1 67 ∧ xt_MR S9 A') : xt_Sp W M := by
  refine ⟨0, _, by decide, hW, fun S' h => ?_⟩
  obtain ⟨T, hT, rfl⟩ := h
  obtain ⟨c1, c2⟩ := hc T hT
  obtain ⟨P, hMP, hP9⟩ := hM _ (xt_mf_tr c1 xt_o1_mf)
  refine ⟨x, P, hMP, fun S2 h2 => ?_⟩
  obtain ⟨e1, e2, e3, e4⟩ := hP9 S2 h2
  exact ⟨e2, fun _ => by rw [e3]; exact xt_o1_v, A', hA, xt_CR_of (xt_cf_tr xt_o1_cf e1) c2, e4⟩
/-- refused, with a note of it -/
theorem xt_Sp_gk {W : (Option Value → xt_St → Prop) → Prop} {M : xt_St → (Option Value → xt_St → Prop) → Prop} {S1 : xt_St → Prop} (k : Nat) {b : Int32} (hk : 0 < k ∧ k < 4) (hA : xt_GA A') (hW : W (fun v S' => v = some (.int (nI k)) ∧ S1 S')) (hc : ∀ T, S1 T → xt_mf S T ∧ xt_CR T A')
    (hM : ∀ S', xt_mf S S' → ∃ P, M S' (xt_Ep (some (.int b)) P) ∧ ∀ S9, P S9 → xt_cf S' S9 ∧ S9.1 49 0 = nI k ∧ xt_MR S9 A') : xt_Sp W M := by
  refine ⟨k, _, hk.2, hW, fun S' h => ?_⟩
  obtain ⟨c1, c2⟩ := hc S' h
  obtain ⟨P, hMP, hP9⟩ := hM _ c1
  refine ⟨b, P, hMP, fun S2 h2 => ?_⟩
  obtain ⟨e1, e2, e4⟩ := hP9 S2 h2
  exact ⟨e2, fun h9 => absurd h9 (by omega), A', hA, xt_CR_of e1 c2, e4⟩
theorem xt_nil9 {i : Nat} {g : Nat → Int32} {P : Prop} (h : ([] : List (Nat → Int32))[i]? = some g) : P := by simp at h
theorem xt_CR_ref {w9 : Nat} {x z : Int32} (hc : xt_CR S A) (hx : x = nI w9) (hw : 0 < w9 ∧ w9 < 1000) : xt_CR (xt_sN (xt_sN S 0 8 x) 0 9 z) (xt_mk9 A.pic A.hist A.snap A.n A.inp A.fault (some (w9, z)) A.plan) := by
  obtain ⟨a1, ⟨nx, a2, a3⟩, a4, a5, a6, a7, a8⟩ := hc
  have hp : ∀ p, p ≠ 0 → xt_e5 (xt_pkp (xt_sN (xt_sN S 0 8 x) 0 9 z) p) (xt_pkp S p) := fun p hp => xt_pkp_of (fun f _ => by simp [xt_sN, hp]) (fun j _ => rfl) (fun j _ => rfl)
  refine ⟨xt_e5_tr (hp 1 (by decide)) a1, ⟨nx, a2, fun i f hf => xt_e5_tr (hp _ (Nat.ne_of_gt (Nat.lt_of_lt_of_le (by decide : 0 < 9) xt_sl_le.1))) (a3 i f hf)⟩, ?_, a5, a6, ⟨?_, hw.1, hw.2, ?_⟩, a8⟩
  · cases hs : A.snap with
    | none => rw [hs] at a4; exact a4
    | some f => rw [hs] at a4; exact ⟨a4.1, xt_e5_tr (hp 4 (by decide)) a4.2⟩
  · rw [← hx]; simp [xt_sN]
  · simp [xt_sN]
theorem xt_MR_ref {w9 k : Nat} {x z : Int32} (hm : xt_MR S A) (hx : x = nI w9) (hw : 0 < w9 ∧ w9 < 1000) : xt_MR (xt_sN (xt_sN (xt_sN S 49 11 x) 49 12 z) 49 0 (nI k)) (xt_mk9 A.pic A.hist A.snap A.n A.inp A.fault (some (w9, z)) A.plan) := by
  obtain ⟨a1, a2, a4, a5, a6, a7, a8⟩ := hm
  refine ⟨a1, a2, ?_, a5, a6, ⟨?_, hw.1, hw.2, ?_⟩, a8⟩
  · cases hs : A.snap with
    | none => rw [hs] at a4; exact a4
    | some f => rw [hs] at a4; exact a4
  · rw [← hx]; simp [xt_sN]
  · simp [xt_sN]
theorem xt_ref_mf {x z : Int32} : xt_mf S (xt_sN (xt_sN S 0 8 x) 0 9 z) := ⟨fun f _ _ _ _ => by simp [xt_sN], fun _ _ => rfl⟩
theorem xt_ref_cf {k : Nat} {x z : Int32} : xt_cf S (xt_sN (xt_sN (xt_sN S 49 11 x) 49 12 z) 49 0 (nI k)) := ⟨fun i f hi _ => by
    have : ¬ i = 49 := by omega
    simp [xt_sN, this], fun _ _ _ => rfl⟩
theorem xt_GA_ref {q : Option (Nat × Int32)} (h : xt_GA A) : xt_GA (xt_mk9 A.pic A.hist A.snap A.n A.inp A.fault (q) A.plan) := h
theorem xt_by_neg {x b : Int32} (hx : xt_vv x) (hb : -255 ≤ b ∧ b ≤ nI 255) (hno : ¬ xt_okv (x + b)) : (x + b < 0 ↔ b < 0) := by
  obtain ⟨m, hm, rfl⟩ := hx
  have h1 := Int32.le_iff_toInt_le.mp hb.1
  have h2 := Int32.le_iff_toInt_le.mp hb.2
  rw [nI_toInt (by decide)] at h2
  have h0 : (-255 : Int32).toInt = -255 := by decide
  rw [h0] at h1
  have hs : (nI m + b).toInt = m + b.toInt := by
    rw [Int32.toInt_add, nI_toInt (by omega)]
    exact Int.bmod_eq_of_le (by omega) (by omega)
  unfold xt_okv at hno
  rw [Int32.le_iff_toInt_le, Int32.le_iff_toInt_le, nI_toInt (by decide), nI_toInt (by decide), hs] at hno
  rw [Int32.lt_iff_toInt_lt, Int32.lt_iff_toInt_lt, hs]
  have hz : (0 : Int32).toInt = 0 := by decide
  rw [hz]
  omega

abbrev xt_W_undo (E : xt_Ev) (l : Launch) (S : xt_St) : (Option Value → xt_St → Prop) → Prop := fun Q => xt_CtH E l yL_undo cL_undo 3 (some Jvm.ClassFile.FieldType.int) hh_L_undo (7 + 1) (110 + 20) 1 6 [.ref (E.1 0), .ref (E.1 67)] S Q
abbrev xt_M_undo (E : xt_Ev) (l : Launch) : xt_St → (Option Value → xt_St → Prop) → Prop := fun S Q => xt_Ct E l yX6_undo cX6_undo 2 (some Jvm.ClassFile.FieldType.int) 1 21 0 0 [.ref (E.1 49)] S Q
abbrev xt_W_restoreSnapshot (E : xt_Ev) (l : Launch) (S : xt_St) : (Option Value → xt_St → Prop) → Prop := fun Q => xt_CtH E l yL_restoreSnapshot cL_restoreSnapshot 3 (some Jvm.ClassFile.FieldType.int) hh_L_restoreSnapshot (7 + 1) (110 + 20) 1 6 [.ref (E.1 0), .ref (E.1 67)] S Q
abbrev xt_M_restoreSnapshot (E : xt_Ev) (l : Launch) : xt_St → (Option Value → xt_St → Prop) → Prop := fun S Q => xt_Ct E l yX6_restoreSnapshot cX6_restoreSnapshot 2 (some Jvm.ClassFile.FieldType.int) 3 60 0 0 [.ref (E.1 49)] S Q
abbrev xt_W_feed (E : xt_Ev) (l : Launch) (S : xt_St) (a : Int32) : (Option Value → xt_St → Prop) → Prop := fun Q => xt_CtH E l yL_feed cL_feed 4 (some Jvm.ClassFile.FieldType.int) hh_L_feed (7 + 1) (110 + 21) 1 6 [.ref (E.1 0), .int a, .ref (E.1 67)] S Q
abbrev xt_M_feed (E : xt_Ev) (l : Launch) (a : Int32) : xt_St → (Option Value → xt_St → Prop) → Prop := fun S Q => xt_Ct E l yX6_feed cX6_feed 2 (some Jvm.ClassFile.FieldType.int) 1 21 0 0 [.ref (E.1 49), .int a] S Q
abbrev xt_W_plan (E : xt_Ev) (l : Launch) (S : xt_St) (a : Int32) : (Option Value → xt_St → Prop) → Prop := fun Q => xt_CtH E l yL_plan cL_plan 4 (some Jvm.ClassFile.FieldType.int) hh_L_plan (7 + 1) (174 + 24) 1 6 [.ref (E.1 0), .int a, .ref (E.1 67)] S Q
abbrev xt_M_plan (E : xt_Ev) (l : Launch) (a : Int32) : xt_St → (Option Value → xt_St → Prop) → Prop := fun S Q => xt_Ct E l yX6_plan cX6_plan 8 (some Jvm.ClassFile.FieldType.int) 5 109 0 0 [.ref (E.1 49), .int a] S Q
theorem st_raise (hst : l.stackTraces = false) (hI : xt_Inv S) (a : Int32) (b : Int32) : xt_Sp (xt_W_raise E l S a b) (xt_M_raise E l a b) := by
  obtain ⟨A, c, r, sd, lv, bo, hA, hc, hm, hg, hP, hvr, hk, hF⟩ := xt_ctx hI
  have hnt := (xt_Pic_nt hP).2
  obtain ⟨nx, hn, hh, hx8, hk8, k1, k2, hm5⟩ := xt_ctx2 hc hm hP
  obtain ⟨-, -, -, -, -, pc1, pc2, pr1, pr2, psd, -⟩ := id hP
  by_cases ht : ∃ j, j < xt_nt c r sd ∧ a = nI j
  · by_cases hby : -255 ≤ b ∧ b ≤ nI 255
    · obtain ⟨t, ht, rfl⟩ := ht
      obtain ⟨t1, t2, t3, t4, t5, t6, t7, t8⟩ := xt_tile_b ⟨pc1, pc2⟩ ⟨pr1, pr2⟩ psd ht
      by_cases hov : ∀ y9 x9, y9 < xt_gh c r sd t → x9 < xt_gw c sd t → xt_okv (S.2.1 2 ((xt_gt c sd t + y9) * c + (xt_gl c sd t + x9)) + b)
      · have hct := ct_raise_ok (E := E) (l := l) (QX := fun _ _ => False) hP ht hby hh hov
        rw [k1] at hct
        have e0 : ∀ F, (xt_sA (xt_keep S nx A.hist.length) 2 F).2.1 2 = F := fun F => by simp [xt_sA]
        rw [e0, xt_add2_s t7] at hct
        refine xt_Sp_2 _ _ hA hc hm hP hk (fun S' m9 => (hF S' m9).2.2) hn (xt_add2_ok (V := xt_vv) t7 hvr (fun y x hy hx => xt_vv_of (hov y x hy hx))) (wr_raise hct (fun v S9 h9 => by obtain ⟨rfl, rfl⟩ := h9; exact ⟨_, rfl, rfl, _, ⟨S, xt_fr_rf, rfl⟩, rfl⟩) (fun _ _ h9 => h9.elim)) (fun S' m9 => ?_)
        obtain ⟨f1, f2, f3⟩ := hF S' m9
        refine ⟨_, ct_mraise f1 ht f2 (hm5 S' m9).1 hk8 hby hov, fun S9 h9 f hf => ?_⟩
        obtain ⟨T, g, hT, rfl, hg9⟩ := h9
        exact xt_Mc_2 hT (hf _ hg9)
      · have hex : ∃ n, ∃ y x, y < xt_gh c r sd t ∧ x < xt_gw c sd t ∧ n = y * xt_gw c sd t + x ∧ ¬ xt_okv (S.2.1 2 ((xt_gt c sd t + y) * c + (xt_gl c sd t + x)) + b) := by
          apply Classical.byContradiction
          intro h9
          exact hov (fun y x hy hx => Classical.byContradiction (fun h8 => h9 ⟨_, y, x, hy, hx, rfl, h8⟩))
        obtain ⟨n, ⟨y, x, hy, hx, hn9, hno⟩, hmin⟩ := xt_least9 hex
        have hfi : ∀ y9 x9, y9 < xt_gh c r sd t → x9 < xt_gw c sd t → (y9 < y ∨ (y9 = y ∧ x9 < x)) → xt_okv (S.2.1 2 ((xt_gt c sd t + y9) * c + (xt_gl c sd t + x9)) + b) := fun y9 x9 hy9 hx9 hlt => by
          apply Classical.byContradiction
          intro h8
          refine hmin (y9 * xt_gw c sd t + x9) ?_ ⟨y9, x9, hy9, hx9, rfl, h8⟩
          rcases hlt with h | ⟨rfl, h⟩
          · have := Nat.mul_le_mul_right (xt_gw c sd t) h
            rw [Nat.succ_mul] at this
            omega
          · omega
        have hpb : (xt_gt c sd t + y) * c + (xt_gl c sd t + x) < 256 := xt_pos_b pc2 pr2 t7 t8 hy hx
        have hsg := xt_by_neg (hvr _ hpb) hby hno
        have hq : ∃ w9, (0 < w9 ∧ w9 < 1000) ∧ (if b < 0 then nI 4 else nI 5) = nI w9 ∧ (if S.2.1 2 ((xt_gt c sd t + y) * c + (xt_gl c sd t + x)) + b < 0 then nI 4 else nI 5) = nI w9 := by
          by_cases h : b < 0
          · exact ⟨4, by decide, by rw [if_pos h], by rw [if_pos (hsg.mpr h)]⟩
          · exact ⟨5, by decide, by rw [if_neg h], by rw [if_neg (fun z => h (hsg.mp z))]⟩
        obtain ⟨w9, hw9, q1, q2⟩ := hq
        refine xt_Sp_gk (b := nI 0) (S := S) (A' := (xt_mk9 A.pic A.hist A.snap A.n A.inp A.fault (some (w9, nI ((xt_gt c sd t + y) * c + (xt_gl c sd t + x)))) A.plan)) (S1 := fun T => T = xt_sN (xt_sN S 0 8 (if b < 0 then nI 4 else nI 5)) 0 9 (nI ((xt_gt c sd t + y) * c + (xt_gl c sd t + x)))) 3 (by decide) hA (wr_raise (ct_raise_bad3 (Q := fun _ _ => False) hst hP ht hby hy hx hno hfi) (fun _ _ h9 => h9.elim) (fun X S9 h9 => by obtain ⟨rfl, rfl⟩ := h9; exact Or.inr (Or.inr ⟨rfl, rfl, rfl⟩))) (fun T hT => ?_) (fun S' m9 => ?_)
        · subst hT
          exact ⟨xt_ref_mf, xt_CR_ref hc q1 hw9⟩
        · obtain ⟨f1, f2, f3⟩ := hF S' m9
          refine ⟨_, ct_mraise_b3 f1 ht f2 hby hy hx hno hfi, fun S9 h9 => ?_⟩
          obtain ⟨T, hT, rfl⟩ := h9
          have hq9 := xt_mq_tr (xt_mq_0 (S := S') (x := nI 0)) (xt_mq_fr hT)
          exact ⟨xt_cf_tr hq9.1 xt_ref_cf, by simp [xt_sN], xt_MR_ref (xt_MR_of (xt_mf_tr m9 hq9.2.1) hm) q2 hw9⟩
    · skip
      refine xt_Sp_no (b := nI 0) hI 2 ⟨by decide, by decide⟩ (wr_raise (ct_raise_bad2 (Q := fun _ _ => False) hst hP ht hby) (fun _ _ h9 => h9.elim) (fun X S9 h9 => by obtain ⟨rfl, rfl⟩ := h9; exact Or.inr (Or.inl ⟨rfl, rfl, xt_fr_rf⟩))) (fun S9 c9 m9 => ?_)
      obtain ⟨f1, f2, f3⟩ := hF S9 m9
      exact ct_mraise_b2 f1 ht hby
  · skip
    refine xt_Sp_no (b := nI 0) hI 1 ⟨by decide, by decide⟩ (wr_raise (ct_raise_bad1 (Q := fun _ _ => False) hst hP ht) (fun _ _ h9 => h9.elim) (fun X S9 h9 => by obtain ⟨rfl, rfl⟩ := h9; exact Or.inl ⟨rfl, rfl, xt_fr_rf⟩)) (fun S9 c9 m9 => ?_)
    obtain ⟨f1, f2, f3⟩ := hF S9 m9
    exact ct_mraise_b1 f1 ht
theorem st_swap (hst : l.stackTraces = false) (hI : xt_Inv S) (a : Int32) (b : Int32) : xt_Sp (xt_W_swap E l S a b) (xt_M_swap E l a b) := by
  obtain ⟨A, c, r, sd, lv, bo, hA, hc, hm, hg, hP, hvr, hk, hF⟩ := xt_ctx hI
  have hnt := (xt_Pic_nt hP).2
  obtain ⟨nx, hn, hh, hx8, hk8, k1, k2, hm5⟩ := xt_ctx2 hc hm hP
  obtain ⟨-, -, -, -, -, pc1, pc2, pr1, pr2, psd, -⟩ := id hP
  by_cases ht : (∃ j, j < xt_nt c r sd ∧ a = nI j) ∧ ∃ j, j < xt_nt c r sd ∧ b = nI j
  · obtain ⟨⟨t, ht, rfl⟩, u, hu, rfl⟩ := ht
    obtain ⟨t1, t2, t3, t4, t5, t6, t7, t8⟩ := xt_tile_b ⟨pc1, pc2⟩ ⟨pr1, pr2⟩ psd ht
    obtain ⟨u1, u2, u3, u4, u5, u6, u7, u8⟩ := xt_tile_b ⟨pc1, pc2⟩ ⟨pr1, pr2⟩ psd hu
    by_cases he : xt_gw c sd u = xt_gw c sd t ∧ xt_gh c r sd u = xt_gh c r sd t
    · have hct := ct_swap_ok (E := E) (l := l) (QX := fun _ _ => False) hP ht hu he.1 he.2 hh
      rw [k1] at hct
      refine xt_Sp_2 _ _ hA hc hm hP hk (fun S' m9 => (hF S' m9).2.2) hn (xt_exch_ok (V := xt_vv) hvr (fun y x hy hx => xt_pos_b pc2 pr2 t7 t8 hy hx) (fun y x hy hx => xt_pos_b pc2 pr2 u7 u8 (by rw [he.2]; exact hy) (by rw [he.1]; exact hx))) (wr_swap hct (fun v S9 h9 => by obtain ⟨rfl, rfl⟩ := h9; exact ⟨_, rfl, rfl, _, ⟨S, xt_fr_rf, rfl⟩, rfl⟩) (fun _ _ h9 => h9.elim)) (fun S' m9 => ?_)
      obtain ⟨f1, f2, f3⟩ := hF S' m9
      refine ⟨_, ct_mswap f1 ht hu f2 (hm5 S' m9).1 hk8 he.1 he.2, fun S9 h9 f hf => ?_⟩
      obtain ⟨T, g, hT, rfl, hg9⟩ := h9
      exact xt_Mc_2 hT (hf _ hg9)
    · refine xt_Sp_gk (b := nI 0) (S := S) (A' := (xt_mk9 A.pic A.hist A.snap A.n A.inp A.fault (some (6, nI 0)) A.plan)) (S1 := fun T => T = xt_sN (xt_sN S 0 8 (nI 6)) 0 9 (nI 0)) 2 (by decide) hA (wr_swap (ct_swap_bad2 (Q := fun _ _ => False) hst hP ht hu he) (fun _ _ h9 => h9.elim) (fun X S9 h9 => by obtain ⟨rfl, rfl⟩ := h9; exact Or.inr ⟨rfl, rfl, rfl⟩)) (fun T hT => ?_) (fun S' m9 => ?_)
      · subst hT
        exact ⟨xt_ref_mf, xt_CR_ref hc rfl (by decide)⟩
      · obtain ⟨f1, f2, f3⟩ := hF S' m9
        refine ⟨_, ct_mswap_b2 f1 ht hu he, fun S9 h9 => ?_⟩
        obtain ⟨T, hT, rfl⟩ := h9
        have hq9 := xt_mq_tr (xt_mq_0 (S := S') (x := nI 0)) (xt_mq_fr hT)
        exact ⟨xt_cf_tr hq9.1 xt_ref_cf, by simp [xt_sN], xt_MR_ref (xt_MR_of (xt_mf_tr m9 hq9.2.1) hm) rfl (by decide)⟩
  · skip
    refine xt_Sp_no (b := nI 0) hI 1 ⟨by decide, by decide⟩ (wr_swap (ct_swap_bad1 (Q := fun _ _ => False) hst hP ht) (fun _ _ h9 => h9.elim) (fun X S9 h9 => by obtain ⟨rfl, rfl⟩ := h9; exact Or.inl ⟨rfl, rfl, xt_fr_rf⟩)) (fun S9 c9 m9 => ?_)
    obtain ⟨f1, f2, f3⟩ := hF S9 m9
    exact ct_mswap_b1 f1 ht
theorem st_soften (hst : l.stackTraces = false) (hI : xt_Inv S) (a : Int32) (b : Int32) : xt_Sp (xt_W_soften E l S a b) (xt_M_soften E l a b) := by
  obtain ⟨A, c, r, sd, lv, bo, hA, hc, hm, hg, hP, hvr, hk, hF⟩ := xt_ctx hI
  have hnt := (xt_Pic_nt hP).2
  obtain ⟨nx, hn, hh, hx8, hk8, k1, k2, hm5⟩ := xt_ctx2 hc hm hP
  obtain ⟨-, -, -, -, -, pc1, pc2, pr1, pr2, psd, -⟩ := id hP
  by_cases ht : ∃ j, j < xt_nt c r sd ∧ a = nI j
  · by_cases hl : nI 0 ≤ b ∧ b ≤ nI 9
    · obtain ⟨t, ht, rfl⟩ := ht
      obtain ⟨n, hn9, rfl⟩ := xt_rng (by decide) hl
      refine xt_Sp_2 _ (xt_put2 c (xt_gl c sd t) (xt_gt c sd t) (xt_gw c sd t) (xt_gh c r sd t) (xt_tJ c r sd lv bo t n (S.2.1 2) (S.2.1 3)) (S.2.1 2)) hA hc hm hP hk (fun S' m9 => (hF S' m9).2.2) hn (xt_put2_ok (V := xt_vv) hvr (fun j => ?_)) (wr_soften (ct_soften_ok (QX := fun _ _ => False) hP ht hk hh hn9) (fun v S9 h9 => ⟨_, h9.1, rfl, _, h9.2, rfl⟩) (fun _ _ h9 => h9.elim)) (fun S' m9 => ?_)
      · rw [xt_tJ_F]
        obtain ⟨e1, e2⟩ := xt_cl_r (x := xt_jn 0 (xt_gw c sd t) (xt_gh c r sd t) (xt_tD c r sd lv t) (xt_tF c r sd lv bo t n (S.2.1 2) (S.2.1 3)) j)
        exact xt_toI (by decide) e1 e2
      · obtain ⟨f1, f2, f3⟩ := hF S' m9
        refine ⟨_, ct_msoften f1 ht f2 f3 hvr hk (hm5 S' m9).1 hk8 hn9, fun S9 h9 f hf => ?_⟩
        obtain ⟨T, g, hT, rfl, hg9⟩ := h9
        exact xt_Mc_3 hT (hf _ hg9)
    · skip
      refine xt_Sp_no (b := nI 0) hI 2 ⟨by decide, by decide⟩ (wr_soften (ct_soften_bad2 (Q := fun _ _ => False) hst hP ht hl) (fun _ _ h9 => h9.elim) (fun X S9 h9 => by obtain ⟨rfl, rfl⟩ := h9; exact Or.inr ⟨rfl, rfl, xt_fr_rf⟩)) (fun S9 c9 m9 => ?_)
      obtain ⟨f1, f2, f3⟩ := hF S9 m9
      exact ct_msoften_b2 f1 ht hl
  · skip
    refine xt_Sp_no (b := nI 0) hI 1 ⟨by decide, by decide⟩ (wr_soften (ct_soften_bad1 (Q := fun _ _ => False) hst hP ht) (fun _ _ h9 => h9.elim) (fun X S9 h9 => by obtain ⟨rfl, rfl⟩ := h9; exact Or.inl ⟨rfl, rfl, xt_fr_rf⟩)) (fun S9 c9 m9 => ?_)
    obtain ⟨f1, f2, f3⟩ := hF S9 m9
    exact ct_msoften_b1 f1 ht
theorem xt_CR_undo {f : Nat → Int32} (h : xt_CR S A) (hn : xt_CH S A.hist nx) (h0 : 0 < A.hist.length) (hf : A.hist[A.hist.length - 1]? = some f) : xt_CR (xt_back S nx A.hist.length) (xt_mk9 (f) (A.hist.dropLast) A.snap A.n A.inp A.fault A.ref A.plan) := by
  obtain ⟨a1, -, a4, a5, a6, a7, a8⟩ := h
  obtain ⟨⟨b1, b2, b3, b4⟩, b5⟩ := hn
  have hq : ∃ q, q < 8 ∧ (if 0 < nx then nx - 1 else 7) = q := ⟨_, by split <;> omega, rfl⟩
  obtain ⟨q, hq8, eq⟩ := hq
  have hb : xt_back S nx A.hist.length = xt_cp (xt_sN (xt_sN S 7 1 (nI q)) 7 2 (nI (max (A.hist.length - 1) 0))) 1 (9 + 3 * q) := by unfold xt_back; rw [eq]
  have o1 : ∀ i f, i ≠ 1 → i ≠ 7 → (xt_back S nx A.hist.length).1 i f = S.1 i f := fun i f h1 h7 => by rw [hb]; simp [xt_cp, xt_sN, h1, h7]
  have o2 : ∀ i, i ≠ 2 → i ≠ 3 → (xt_back S nx A.hist.length).2.1 i = S.2.1 i := fun i h2 h3 => by
    rw [hb]
    funext j
    show xt_cpA _ 1 (9 + 3 * q) 256 i j = _
    simp [xt_cpA, xt_sN, h2, h3]
  have hp : ∀ p, 4 ≤ p → p ≠ 7 → xt_e5 (xt_pkp (xt_back S nx A.hist.length) p) (xt_pkp S p) := fun p h4 h7 => xt_pkp_of (fun f _ => o1 p f (by omega) h7) (fun j _ => by rw [o2 (p + 1) (by omega) (by omega)]) (fun j _ => by rw [o2 (p + 2) (by omega) (by omega)])
  have hp1 : xt_e5 (xt_pkp (xt_back S nx A.hist.length) 1) (xt_pkp S (9 + 3 * q)) := by
    rw [hb]
    have e7 : ¬ 9 + 3 * q = 7 := by omega
    refine xt_pkp_of (fun f hf => by simp [xt_cp, xt_sN, hf, e7]) (fun j hj => ?_) (fun j hj => ?_)
    · show xt_cpA _ 1 (9 + 3 * q) 256 (1 + 1) j = _
      have e : 1 + 1 - 1 + (9 + 3 * q) = 9 + 3 * q + 1 := by omega
      simp only [xt_cpA, hj, and_true, true_or, if_true, e]
      rfl
    · show xt_cpA _ 1 (9 + 3 * q) 256 (1 + 2) j = _
      have e : 1 + 2 - 1 + (9 + 3 * q) = 9 + 3 * q + 2 := by omega
      simp only [xt_cpA, hj, and_true, or_true, if_true, e]
      rfl
  have hl : A.hist.dropLast.length = A.hist.length - 1 := List.length_dropLast
  refine ⟨?_, ⟨q, ⟨?_, ?_, hq8, ?_⟩, fun i g hg => ?_⟩, ?_, ?_, ?_, ?_, ?_⟩
  · have hz : xt_sl nx A.hist.length (A.hist.length - 1) = 9 + 3 * q := by rw [← eq]; unfold xt_sl; split <;> omega
    exact xt_e5_tr hp1 (hz ▸ b5 _ f hf)
  · rw [hb]; simp [xt_cp, xt_sN]
  · rw [hb]; show _ = nI A.hist.dropLast.length; rw [hl]; simp [xt_cp, xt_sN]
  · show A.hist.dropLast.length ≤ 8; omega
  · have hi : i < A.hist.length - 1 := by
      rw [← hl]
      exact (List.getElem?_eq_some_iff.mp hg).1
    have hg9 : A.hist[i]? = some g := by
      rw [List.getElem?_dropLast, if_pos hi] at hg
      exact hg
    have hz : xt_sl q A.hist.dropLast.length i = xt_sl nx A.hist.length i := by rw [hl, ← eq]; unfold xt_sl; split <;> omega
    show xt_e5 (xt_pkp _ (xt_sl q A.hist.dropLast.length i)) g
    rw [hz]
    exact xt_e5_tr (hp _ (Nat.le_trans (by decide : 4 ≤ 9) xt_sl_le.1) (Nat.ne_of_gt (Nat.lt_of_lt_of_le (by decide : 7 < 9) xt_sl_le.1))) (b5 i g hg9)
  · cases hs : A.snap with
    | none => rw [hs] at a4; show (xt_back S nx _).1 0 2 = nI 0; rw [o1 0 2 (by decide) (by decide)]; exact a4
    | some f => rw [hs] at a4; exact ⟨by rw [o1 0 2 (by decide) (by decide)]; exact a4.1, xt_e5_tr (hp 4 (by decide) (by decide)) a4.2⟩
  · rw [o1 46 1 (by decide) (by decide), o2 47 (by decide) (by decide)]; exact a5
  · rw [o1 0 7 (by decide) (by decide)]; exact a6
  · rw [o1 0 8 (by decide) (by decide), o1 0 9 (by decide) (by decide)]; exact a7
  · rw [o1 42 0 (by decide) (by decide), o2 43 (by decide) (by decide)]; exact a8
theorem xt_back_mf {kp : Nat} : xt_mf S (xt_back S nx kp) := ⟨fun f _ _ _ _ => by simp [xt_back, xt_cp, xt_sN], fun i hi => by
  funext j
  have h2 : ¬ i = 2 := by omega
  have h3 : ¬ i = 3 := by omega
  show xt_cpA _ 1 _ 256 i j = _
  simp [xt_cpA, xt_sN, h2, h3]⟩
theorem st_undo (hst : l.stackTraces = false) (hI : xt_Inv S) : xt_Sp (xt_W_undo E l S) (xt_M_undo E l) := by
  obtain ⟨A, c, r, sd, lv, bo, hA, hc, hm, hg, hP, hvr, hk, hF⟩ := xt_ctx hI
  have hnt := (xt_Pic_nt hP).2
  obtain ⟨nx, hn, hh, hx8, hk8, k1, k2, hm5⟩ := xt_ctx2 hc hm hP
  obtain ⟨-, -, -, -, -, pc1, pc2, pr1, pr2, psd, -⟩ := id hP
  by_cases h0 : 0 < A.hist.length
  · obtain ⟨kp, ekp⟩ : ∃ kp, A.hist.length = kp + 1 := ⟨A.hist.length - 1, by omega⟩
    obtain ⟨f, hf⟩ : ∃ f, A.hist[A.hist.length - 1]? = some f := ⟨_, List.getElem?_eq_getElem (by omega)⟩
    have hf9 : A.hist[kp]? = some f := by rw [← hf, ekp]; rfl
    refine xt_Sp_g0 (S := S) (A' := (xt_mk9 (f) (A.hist.dropLast) A.snap A.n A.inp A.fault A.ref A.plan)) (S1 := fun T => T = xt_back S nx A.hist.length) (nI kp) ⟨hA.2.1 f (List.mem_of_getElem? hf), fun g hg => hA.2.1 g ((List.dropLast_sublist _).subset hg), hA.2.2⟩ (wr_undo (ct_undo_ok (QX := fun _ _ => False) hh h0) (fun v S9 h9 => by obtain ⟨rfl, rfl⟩ := h9; exact ⟨nI kp, by rw [show (xt_back S nx A.hist.length).1 7 2 = nI kp from by rw [ekp]; simp [xt_back, xt_cp, xt_sN]], rfl, _, rfl, rfl⟩) (fun _ _ h9 => h9.elim)) (fun T hT => ?_) (fun S' m9 => ?_)
    · subst hT
      exact ⟨xt_back_mf, xt_CR_undo hc hn h0 hf⟩
    · refine ⟨_, ct_mundo (by rw [(hm5 S' m9).1, ekp]) (by omega), fun S9 h9 => ?_⟩
      subst h9
      have m2 := xt_MR_of m9 hm
      obtain ⟨a1, ⟨a2, a2b, a3⟩, a4, a5, a6, a7, a8⟩ := m2
      have hl : A.hist.dropLast.length = kp := by rw [List.length_dropLast]; omega
      refine ⟨⟨fun i f hi _ => ?_, fun i hi _ => ?_⟩, ?_, rfl, ⟨fun j hj => ?_, ⟨?_, ?_, fun i g hg => ?_⟩, ?_, a5, a6, a7, a8⟩⟩
      · have : ¬ i = 49 := by omega
        simp [xt_sA, xt_sN, this]
      · have : ¬ i = 50 := by omega
        simp [xt_sA, xt_sN, this]
      · simp [xt_sA, xt_sN]
      · show (xt_sA _ 50 _).2.1 50 j = f j
        simp only [xt_sA, if_true, xt_cpy, hj]
        exact a3 kp f hf9 j hj
      · show _ = nI A.hist.dropLast.length
        rw [hl]; simp [xt_sA, xt_sN]
      · show A.hist.dropLast.length ≤ 8
        omega
      · have hi : i < A.hist.length - 1 := by
          rw [← List.length_dropLast]
          exact (List.getElem?_eq_some_iff.mp hg).1
        have hg9 : A.hist[i]? = some g := by
          rw [List.getElem?_dropLast, if_pos hi] at hg
          exact hg
        exact a3 i g hg9
      · cases hs : A.snap with
        | none => rw [hs] at a4; exact a4
        | some f => rw [hs] at a4; exact a4
  · have e0 : A.hist.length = 0 := by omega
    refine xt_Sp_no (b := nI 0) hI 1 ⟨by decide, by decide⟩ (wr_undo (ct_undo_bad (Q := fun _ _ => False) hst hh e0) (fun _ _ h9 => h9.elim) (fun X S9 h9 => by obtain ⟨rfl, rfl⟩ := h9; exact ⟨rfl, rfl, xt_fr_rf⟩)) (fun S9 c9 m9 => ?_)
    obtain ⟨f1, f2, f3⟩ := hF S9 m9
    exact ct_mundo_b ((hm5 S9 m9).1.trans (by rw [e0]))
theorem st_restoreSnapshot (hst : l.stackTraces = false) (hI : xt_Inv S) : xt_Sp (xt_W_restoreSnapshot E l S) (xt_M_restoreSnapshot E l) := by
  obtain ⟨A, c, r, sd, lv, bo, hA, hc, hm, hg, hP, hvr, hk, hF⟩ := xt_ctx hI
  have hnt := (xt_Pic_nt hP).2
  obtain ⟨nx, hn, hh, hx8, hk8, k1, k2, hm5⟩ := xt_ctx2 hc hm hP
  obtain ⟨-, -, -, -, -, pc1, pc2, pr1, pr2, psd, -⟩ := id hP
  have hs5 := hc.2.2.1
  have hs6 := hm.2.2.1
  cases hsn : A.snap with
  | none =>
    rw [hsn] at hs5 hs6
    refine xt_Sp_no (b := nI 0) hI 1 ⟨by decide, by decide⟩ (wr_restoreSnapshot (ct_restore_bad (Q := fun _ _ => False) hst hs5) (fun _ _ h9 => h9.elim) (fun X S9 h9 => by obtain ⟨rfl, rfl⟩ := h9; exact ⟨rfl, rfl, xt_fr_rf⟩)) (fun S9 c9 m9 => ?_)
    obtain ⟨f1, f2, f3⟩ := hF S9 m9
    exact ct_mrestore_b ((m9.1 5 (by decide) (by decide) (by decide) (by decide)).trans hs6)
  | some f =>
    rw [hsn] at hs5 hs6
    obtain ⟨c2, r2, sd2, lv2, bo2, hgf⟩ := hA.2.2 f hsn
    have hP4 : xt_Pic S 4 c2 r2 sd2 lv2 bo2 := by
      obtain ⟨a0, a1, a2, a3, a4, a5⟩ := hgf.1
      have e := hs5.2
      refine ⟨?_, ?_, ?_, ?_, ?_, a5⟩
      · rw [← a0, ← e 0 (by decide), xt_pkp_0 (by decide)]
      · rw [← a1, ← e 1 (by decide), xt_pkp_0 (by decide)]
      · rw [← a2, ← e 2 (by decide), xt_pkp_0 (by decide)]
      · rw [← a3, ← e 3 (by decide), xt_pkp_0 (by decide)]
      · rw [← a4, ← e 4 (by decide), xt_pkp_0 (by decide)]
    refine xt_Sp_g0 (S := S) (A' := (xt_mk9 (f) ([]) A.snap A.n A.inp A.fault A.ref A.plan)) (S1 := fun T => T = xt_sN (xt_cp S 1 4) 7 2 (nI 0)) (nI (xt_nt c2 r2 sd2)) ⟨hA.2.2 f hsn, fun g hg => absurd hg List.not_mem_nil, hA.2.2⟩ (wr_restoreSnapshot (ct_restore_ok (QX := fun _ _ => False) hP4 hs5.1) (fun v S9 h9 => by obtain ⟨rfl, rfl⟩ := h9; exact ⟨_, rfl, rfl, _, rfl, rfl⟩) (fun _ _ h9 => h9.elim)) (fun T hT => ?_) (fun S' m9 => ?_)
    · subst hT
      obtain ⟨a1, -, a4, a5, a6, a7, a8⟩ := hc
      have o1 : ∀ i f, i ≠ 1 → i ≠ 7 → (xt_sN (xt_cp S 1 4) 7 2 (nI 0)).1 i f = S.1 i f := fun i f h1 h7 => by simp [xt_cp, xt_sN, h1, h7]
      have o2 : ∀ i, i ≠ 2 → i ≠ 3 → (xt_sN (xt_cp S 1 4) 7 2 (nI 0)).2.1 i = S.2.1 i := fun i h2 h3 => by
        funext j
        show xt_cpA _ 1 4 256 i j = _
        simp [xt_cpA, h2, h3]
      refine ⟨⟨fun f _ _ _ _ => o1 49 f (by decide) (by decide), fun i hi => o2 i (by omega) (by omega)⟩, ?_, ⟨nx, ⟨?_, ?_, hx8, Nat.zero_le _⟩, fun i g hg => xt_nil9 hg⟩, ?_, ?_, ?_, ?_, ?_⟩
      · refine xt_e5_tr (xt_pkp_of (q := 4) (S := S) (fun f hf => by simp [xt_cp, xt_sN, hf]) (fun j hj => ?_) (fun j hj => ?_)) hs5.2
        · show xt_cpA S 1 4 256 (1 + 1) j = _
          simp only [xt_cpA, hj, and_true, true_or, if_true]
        · show xt_cpA S 1 4 256 (1 + 2) j = _
          simp only [xt_cpA, hj, and_true, or_true, if_true]
      · rw [← hh.1]; simp [xt_cp, xt_sN]
      · simp [xt_sN]
        rfl
      · show xt_Cs _ A.snap
        rw [hsn]
        refine ⟨by rw [o1 0 2 (by decide) (by decide)]; exact hs5.1, xt_e5_tr (xt_pkp_of (fun f _ => o1 4 f (by decide) (by decide)) (fun j _ => by rw [o2 (4 + 1) (by decide) (by decide)]) (fun j _ => by rw [o2 (4 + 2) (by decide) (by decide)])) hs5.2⟩
      · rw [o1 46 1 (by decide) (by decide), o2 47 (by decide) (by decide)]; exact a5
      · rw [o1 0 7 (by decide) (by decide)]; exact a6
      · rw [o1 0 8 (by decide) (by decide), o1 0 9 (by decide) (by decide)]; exact a7
      · rw [o1 42 0 (by decide) (by decide), o2 43 (by decide) (by decide)]; exact a8
    · have m2 := xt_MR_of m9 hm
      obtain ⟨a1, ⟨a2, a2b, a3⟩, a4, a5, a6, a7, a8⟩ := m2
      rw [hsn] at a4
      refine ⟨_, ct_mrestore (xt_Gp_e5 hgf a4.2).1 a4.1, fun S9 h9 => ?_⟩
      subst h9
      refine ⟨⟨fun i f hi _ => ?_, fun i hi _ => ?_⟩, ?_, rfl, ⟨fun j hj => ?_, ⟨?_, Nat.zero_le _, fun i g hg => xt_nil9 hg⟩, ?_, a5, a6, a7, a8⟩⟩
      · have : ¬ i = 49 := by omega
        simp [xt_sA, xt_sN, this]
      · have : ¬ i = 50 := by omega
        simp [xt_sA, xt_sN, this]
      · simp [xt_sA, xt_sN]
      · show (xt_sA _ 50 _).2.1 50 j = f j
        simp only [xt_sA, if_true, xt_cpy, hj, Nat.zero_add]
        exact a4.2 j hj
      · simp [xt_sN]
        rfl
      · show xt_Ms9 _ A.snap
        rw [hsn]
        exact a4
theorem st_feed (hst : l.stackTraces = false) (hI : xt_Inv S) (a : Int32) (ha : vp_nar .char a = a) : xt_Sp (xt_W_feed E l S a) (xt_M_feed E l a) := by
  obtain ⟨A, c, r, sd, lv, bo, hA, hc, hm, hg, hP, hvr, hk, hF⟩ := xt_ctx hI
  have hnt := (xt_Pic_nt hP).2
  obtain ⟨nx, hn, hh, hx8, hk8, k1, k2, hm5⟩ := xt_ctx2 hc hm hP
  obtain ⟨-, -, -, -, -, pc1, pc2, pr1, pr2, psd, -⟩ := id hP
  have hs5 := hc.2.2.2.1
  have hs6 := hm.2.2.2.1
  by_cases h60 : A.n < 60
  · refine xt_Sp_g0 (S := S) (A' := (xt_mk9 A.pic A.hist A.snap (A.n + 1) (upd A.inp A.n a) A.fault A.ref A.plan)) (S1 := fun T => T = xt_sN (xt_sA S 47 (upd (S.2.1 47) A.n a)) 46 1 (nI (A.n + 1))) (nI (A.n + 1)) hA (wr_feed (ct_feed_ok (QX := fun _ _ => False) hs5.1 h60) (fun v S9 h9 => by obtain ⟨rfl, rfl⟩ := h9; exact ⟨_, rfl, rfl, _, by rw [ha], rfl⟩) (fun _ _ h9 => h9.elim)) (fun T hT => ?_) (fun S' m9 => ?_)
    · subst hT
      obtain ⟨a1, ⟨nx, a2, a3⟩, a4, a5, a6, a7, a8⟩ := hc
      have hp : ∀ p, p ≤ 30 → xt_e5 (xt_pkp (xt_sN (xt_sA S 47 (upd (S.2.1 47) A.n a)) 46 1 (nI (A.n + 1))) p) (xt_pkp S p) := fun p hp => xt_pkp_of (fun f _ => by
          have : ¬ p = 46 := by omega
          simp [xt_sN, xt_sA, this]) (fun j _ => by
          have : ¬ p = 46 := by omega
          simp [xt_sN, xt_sA, this]) (fun j _ => by
          have : ¬ p = 45 := by omega
          simp [xt_sN, xt_sA, this])
      refine ⟨⟨fun f _ _ _ _ => by simp [xt_sN, xt_sA], fun i hi => by
        have : ¬ i = 47 := by omega
        simp [xt_sN, xt_sA, this]⟩, xt_e5_tr (hp 1 (by decide)) a1, ⟨nx, a2, fun i f hf => xt_e5_tr (hp _ xt_sl_le.2) (a3 i f hf)⟩, ?_, ⟨by simp [xt_sN], by show A.n + 1 ≤ 60; omega, fun j hj => ?_⟩, a6, a7, a8⟩
      · cases hs : A.snap with
        | none => rw [hs] at a4; exact a4
        | some f => rw [hs] at a4; exact ⟨a4.1, xt_e5_tr (hp 4 (by decide)) a4.2⟩
      · show (xt_sA S 47 (upd (S.2.1 47) A.n a)).2.1 47 j = upd A.inp A.n a j
        have hj9 : j < A.n + 1 := hj
        simp only [xt_sA, if_true]
        unfold upd
        by_cases e : j = A.n
        · rw [if_pos e, if_pos e]
        · rw [if_neg e, if_neg e]; exact a5.2.2 j (by omega)
    · have m2 := xt_MR_of m9 hm
      obtain ⟨a1, ⟨a2, a2b, a3⟩, a4, a5, a6, a7, a8⟩ := m2
      refine ⟨_, ct_mfeed a5.1 h60, fun S9 h9 => ?_⟩
      subst h9
      refine ⟨⟨fun i f hi _ => ?_, fun i hi _ => ?_⟩, ?_, rfl, ⟨a1, ⟨a2, a2b, a3⟩, ?_, ⟨by simp [xt_sN, xt_sA], by show A.n + 1 ≤ 60; omega, fun j hj => ?_⟩, a6, a7, a8⟩⟩
      · have : ¬ i = 49 := by omega
        simp [xt_sA, xt_sN, this]
      · have : ¬ i = 54 := by omega
        simp [xt_sA, xt_sN, this]
      · simp [xt_sA, xt_sN]
      · cases hs : A.snap with
        | none => rw [hs] at a4; exact a4
        | some f => rw [hs] at a4; exact a4
      · show (xt_sA _ 54 _).2.1 54 j = upd A.inp A.n a j
        have hj9 : j < A.n + 1 := hj
        simp only [xt_sA, if_true]
        unfold upd
        by_cases e : j = A.n
        · rw [if_pos e, if_pos e]
        · rw [if_neg e, if_neg e]; exact a5.2.2 j (by omega)
  · have e60 : A.n = 60 := by have := hs5.2.1; omega
    refine xt_Sp_no (b := nI 0) hI 1 ⟨by decide, by decide⟩ (wr_feed (ct_feed_bad (Q := fun _ _ => False) hst hs5.1 (by omega) (by omega)) (fun _ _ h9 => h9.elim) (fun X S9 h9 => by obtain ⟨rfl, rfl⟩ := h9; exact ⟨rfl, rfl, xt_fr_rf⟩)) (fun S9 c9 m9 => ?_)
    obtain ⟨f1, f2, f3⟩ := hF S9 m9
    exact ct_mfeed_b (((m9.1 8 (by decide) (by decide) (by decide) (by decide)).trans hs6.1).trans (by rw [e60]))
theorem st_plan (hst : l.stackTraces = false) (hI : xt_Inv S) (a : Int32) : xt_Sp (xt_W_plan E l S a) (xt_M_plan E l a) := by
  obtain ⟨A, c, r, sd, lv, bo, hA, hc, hm, hg, hP, hvr, hk, hF⟩ := xt_ctx hI
  have hnt := (xt_Pic_nt hP).2
  obtain ⟨nx, hn, hh, hx8, hk8, k1, k2, hm5⟩ := xt_ctx2 hc hm hP
  obtain ⟨-, -, -, -, -, pc1, pc2, pr1, pr2, psd, -⟩ := id hP
  by_cases hl : nI 0 ≤ a ∧ a ≤ nI 9999
  · obtain ⟨bg, hbg, rfl⟩ := xt_rng (by decide) hl
    have hntb := xt_Pic_nt hP
    refine xt_Sp_g0 (S := S) (A' := (xt_mk9 A.pic A.hist A.snap A.n A.inp A.fault A.ref (some (xt_nt c r sd, fun t => nI ((xt_gr (xt_nt c r sd) (fun t j => xt_tW c r sd lv bo t j (S.2.1 2) (S.2.1 3)) (fun t j => xt_tB c r sd lv bo t (nI j) (S.2.1 2) (S.2.1 3)) (nI bg) 576).1 t))))) _ hA (wr_plan (ct_plan_ok (QX := fun _ _ => False) hP hk hbg) (fun v S9 h9 => ⟨_, h9.1, rfl, _, h9.2, rfl⟩) (fun _ _ h9 => h9.elim)) (fun T hT => ?_) (fun S' m9 => ?_)
    · obtain ⟨m, p1, p2, p3, p4, p5, -⟩ := hT
      obtain ⟨a1, ⟨nx, a2, a3⟩, a4, a5, a6, a7, a8⟩ := hc
      have hp : ∀ p, p ≤ 30 → xt_e5 (xt_pkp T p) (xt_pkp S p) := fun p hp => xt_pkp_of (fun f _ => p1 p f (by omega) (by omega)) (fun j _ => by rw [p2 (p + 1) (by omega)]) (fun j _ => by rw [p2 (p + 2) (by omega)])
      refine ⟨⟨fun f _ _ _ _ => p1 49 f (by decide) (by decide), fun i hi => p2 i (by omega)⟩, xt_e5_tr (hp 1 (by decide)) a1, ⟨nx, ?_, fun i f hf => xt_e5_tr (hp _ xt_sl_le.2) (a3 i f hf)⟩, ?_, ?_, ?_, ?_, ⟨p4, hntb.1, hntb.2, fun t ht => (p5 t (by omega)).1⟩⟩
      · exact ⟨by rw [p1 7 1 (by decide) (by decide)]; exact a2.1, by rw [p1 7 2 (by decide) (by decide)]; exact a2.2.1, a2.2.2⟩
      · cases hs : A.snap with
        | none => rw [hs] at a4; show T.1 0 2 = nI 0; rw [p1 0 2 (by decide) (by decide)]; exact a4
        | some f => rw [hs] at a4; exact ⟨by rw [p1 0 2 (by decide) (by decide)]; exact a4.1, xt_e5_tr (hp 4 (by decide)) a4.2⟩
      · rw [p1 46 1 (by decide) (by decide), p2 47 (by decide)]; exact a5
      · rw [p1 0 7 (by decide) (by decide)]; exact a6
      · rw [p1 0 8 (by decide) (by decide), p1 0 9 (by decide) (by decide)]; exact a7
    · obtain ⟨f1, f2, f3⟩ := hF S' m9
      have m2 := xt_MR_of m9 hm
      obtain ⟨a1, ⟨a2, a2b, a3⟩, a4, a5, a6, a7, a8⟩ := m2
      refine ⟨_, ct_mplan f1 f2 f3 hvr hk hbg, fun S9 h9 => ?_⟩
      obtain ⟨⟨f, g, h1⟩, h2, h3⟩ := h9
      have g1 : ∀ q, q ≠ 0 → q ≠ 13 → q ≠ 16 → q ≠ 17 → q ≠ 18 → S9.1 49 q = S'.1 49 q := fun q q0 q1 q2 q3 q4 => by
        rw [h1.1 49 q (Or.inr ⟨q2, q3, q4⟩)]; simp [xt_sA, xt_sN, q0, q1]
      have g2 : ∀ i, (i < 55 ∨ 63 < i) → S9.2.1 i = S'.2.1 i := fun i hi => by
        rw [h1.2.1 i (by omega)]
        have e1 : ¬ i = 55 := by omega
        have e2 : ¬ i = 56 := by omega
        simp [xt_sA, xt_sN, e1, e2]
      refine ⟨⟨fun i q hi _ => ?_, fun i hi _ => g2 i (by omega)⟩, ?_, ?_, ⟨?_, ⟨?_, a2b, fun i q hq => ?_⟩, ?_, ?_, ?_, ?_, ⟨?_, hntb.1, hntb.2, fun t ht => (h3 t ht).1⟩⟩⟩
      · rw [h1.1 i q (Or.inl (by omega))]
        have : ¬ i = 49 := by omega
        simp [xt_sA, xt_sN, this]
      · rw [h1.1 49 0 (by decide)]; simp [xt_sA, xt_sN]
      · rw [h1.2.2.1 67 (by decide) (by decide)]; rfl
      · rw [g2 50 (by decide)]; exact a1
      · rw [g1 3 (by decide) (by decide) (by decide) (by decide) (by decide)]; exact a2
      · rw [g2 51 (by decide)]; exact a3 i q hq
      · cases hs : A.snap with
        | none => rw [hs] at a4; show S9.1 49 5 = nI 0; rw [g1 5 (by decide) (by decide) (by decide) (by decide) (by decide)]; exact a4
        | some f => rw [hs] at a4; exact ⟨by rw [g1 5 (by decide) (by decide) (by decide) (by decide) (by decide)]; exact a4.1, by rw [g2 52 (by decide)]; exact a4.2⟩
      · rw [g1 8 (by decide) (by decide) (by decide) (by decide) (by decide), g2 54 (by decide)]; exact a5
      · rw [g1 10 (by decide) (by decide) (by decide) (by decide) (by decide)]; exact a6
      · rw [g1 11 (by decide) (by decide) (by decide) (by decide) (by decide), g1 12 (by decide) (by decide) (by decide) (by decide) (by decide)]; exact a7
      · rw [h1.1 49 13 (by decide)]; simp [xt_sA, xt_sN]
  · skip
    refine xt_Sp_no (b := nI 0) hI 1 ⟨by decide, by decide⟩ (wr_plan (ct_plan_bad (Q := fun _ _ => False) hst hl) (fun _ _ h9 => h9.elim) (fun X S9 h9 => by obtain ⟨rfl, rfl⟩ := h9; exact ⟨rfl, rfl, xt_fr_rf⟩)) (fun S9 c9 m9 => ?_)
    obtain ⟨f1, f2, f3⟩ := hF S9 m9
    exact ct_mplan_b hl
/-- saveSnapshot, which the law calls itself -/
theorem st_save (hI : xt_Inv S) : ∃ (x : Int32) (P1 : xt_St → Prop), xt_CtX E l yX5_saveSnapshot cX5_saveSnapshot 1 (some Jvm.ClassFile.FieldType.int) 3 61 1 6 [.ref (E.1 0)] S (xt_Ep (some (.int x)) P1) (fun _ _ => False) ∧ ∀ S', P1 S' → ∃ P2, xt_Ct E l yX6_saveSnapshot cX6_saveSnapshot 2 (some Jvm.ClassFile.FieldType.int) 3 60 0 0 [.ref (E.1 49)] S' (xt_Ep (some (.int x)) P2) ∧ ∀ S'', P2 S'' → xt_Inv S'' := by
  obtain ⟨A, c, r, sd, lv, bo, hA, hc, hm, hg, hP, hvr, hk, hF⟩ := xt_ctx hI
  have hnt := (xt_Pic_nt hP).2
  obtain ⟨nx, hn, hh, hx8, hk8, k1, k2, hm5⟩ := xt_ctx2 hc hm hP
  obtain ⟨-, -, -, -, -, pc1, pc2, pr1, pr2, psd, -⟩ := id hP
  refine ⟨_, _, ct_save_ok (QX := fun _ _ => False) hP, fun S' h => ?_⟩
  subst h
  have o1 : ∀ i f, i ≠ 0 → i ≠ 4 → (xt_sN (xt_cp S 4 1) 0 2 (nI 1)).1 i f = S.1 i f := fun i f h1 h4 => by simp [xt_cp, xt_sN, h1, h4]
  have o0 : ∀ f, f ≠ 2 → (xt_sN (xt_cp S 4 1) 0 2 (nI 1)).1 0 f = S.1 0 f := fun f h2 => by simp [xt_cp, xt_sN, h2]
  have o2 : ∀ i, i ≠ 5 → i ≠ 6 → (xt_sN (xt_cp S 4 1) 0 2 (nI 1)).2.1 i = S.2.1 i := fun i h2 h3 => by
    funext j
    show xt_cpA _ 4 1 256 i j = _
    simp [xt_cpA, h2, h3]
  have m9 : xt_mf S (xt_sN (xt_cp S 4 1) 0 2 (nI 1)) := ⟨fun f _ _ _ _ => o1 49 f (by decide) (by decide), fun i hi => o2 i (by omega) (by omega)⟩
  have hp : ∀ p, p = 1 ∨ 9 ≤ p → xt_e5 (xt_pkp (xt_sN (xt_cp S 4 1) 0 2 (nI 1)) p) (xt_pkp S p) := fun p hp => xt_pkp_of (fun f _ => o1 p f (by omega) (by omega)) (fun j _ => by rw [o2 (p + 1) (by omega) (by omega)]) (fun j _ => by rw [o2 (p + 2) (by omega) (by omega)])
  have c9 : xt_CR (xt_sN (xt_cp S 4 1) 0 2 (nI 1)) (xt_mk9 A.pic A.hist (some A.pic) A.n A.inp A.fault A.ref A.plan) := by
    obtain ⟨a1, ⟨nx, a2, a3⟩, a4, a5, a6, a7, a8⟩ := hc
    refine ⟨xt_e5_tr (hp 1 (by decide)) a1, ⟨nx, ?_, fun i f hf => xt_e5_tr (hp _ (Or.inr xt_sl_le.1)) (a3 i f hf)⟩, ⟨by simp [xt_sN], ?_⟩, ?_, ?_, ?_, ?_⟩
    · exact ⟨by rw [o1 7 1 (by decide) (by decide)]; exact a2.1, by rw [o1 7 2 (by decide) (by decide)]; exact a2.2.1, a2.2.2⟩
    · refine xt_e5_tr (xt_pkp_of (q := 1) (S := S) (fun f hf => by simp [xt_cp, xt_sN, hf]) (fun j hj => ?_) (fun j hj => ?_)) a1
      · show xt_cpA S 4 1 256 (4 + 1) j = _
        simp only [xt_cpA, hj, and_true, true_or, if_true]
      · show xt_cpA S 4 1 256 (4 + 2) j = _
        simp only [xt_cpA, hj, and_true, or_true, if_true]
    · rw [o1 46 1 (by decide) (by decide), o2 47 (by decide) (by decide)]; exact a5
    · rw [o0 7 (by decide)]; exact a6
    · rw [o0 8 (by decide), o0 9 (by decide)]; exact a7
    · rw [o1 42 0 (by decide) (by decide), o2 43 (by decide) (by decide)]; exact a8
  obtain ⟨f1, f2, f3⟩ := hF _ m9
  refine ⟨_, ct_msave f1, fun S9 h9 => ?_⟩
  subst h9
  have m2 := xt_MR_of m9 hm
  obtain ⟨a1, a2, a4, a5, a6, a7, a8⟩ := m2
  refine ⟨(xt_mk9 A.pic A.hist (some A.pic) A.n A.inp A.fault A.ref A.plan), ⟨hA.1, hA.2.1, fun f hf => by cases hf; exact hA.1⟩, xt_CR_of ⟨fun i f hi _ => ?_, fun i hi _ => ?_⟩ c9, ⟨a1, a2, ⟨by simp [xt_sN, xt_sA], fun j hj => ?_⟩, a5, a6, a7, a8⟩⟩
  · have : ¬ i = 49 := by omega
    simp [xt_sA, xt_sN, this]
  · have : ¬ i = 52 := by omega
    simp [xt_sA, xt_sN, this]
  · show (xt_sA _ 52 _).2.1 52 j = A.pic j
    simp only [xt_sA, if_true, xt_cpy, hj, Nat.zero_add]
    exact a1 j hj
end XL5
