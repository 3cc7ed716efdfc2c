/-! the calls that change the picture, both sides -/
section XL4
theorem xt_it_P {α : Type} {I : α → Prop} {f : Nat → α → α} : ∀ n, (∀ i, i < n → ∀ s, I s → I (f i s)) → ∀ s, I s → I (xt_it f n s) := by
  intro n
  induction n with
  | zero => exact fun _ s h => h
  | succ n ih =>
    intro h s h0
    exact h n (by omega) _ (ih (fun i hi => h i (by omega)) s h0)
def xt_vv (x : Int32) : Prop := ∃ m, m ≤ 255 ∧ x = nI m
theorem xt_vv_of {x : Int32} (h : xt_okv x) : xt_vv x := xt_rng (by decide) h
theorem xt_upd_ok {V : Int32 → Prop} {f : Nat → Int32} {p : Nat} {v : Int32} (hf : ∀ j, j < 256 → V (f j)) (hv : V v) : ∀ j, j < 256 → V (upd f p v j) := by
  intro j hj
  unfold upd
  split
  · exact hv
  · exact hf j hj
theorem xt_paint_ok {V : Int32 → Prop} {c lf tp w h : Nat} {v : Int32} {f : Nat → Int32} (hf : ∀ j, j < 256 → V (f j)) (hv : V v) : ∀ j, j < 256 → V ((xt_paint c lf tp w h v f).1 j) := by
  unfold xt_paint
  refine xt_it_P (I := fun q : (Nat → Int32) × Int32 => ∀ j, j < 256 → V (q.1 j)) h (fun y _ s hs => ?_) _ hf
  refine xt_it_P (I := fun q : (Nat → Int32) × Int32 => ∀ j, j < 256 → V (q.1 j)) w (fun x _ s hs => ?_) _ hs
  exact xt_upd_ok hs hv
theorem xt_put2_ok {V : Int32 → Prop} {c lf tp w h : Nat} {J f : Nat → Int32} (hf : ∀ j, j < 256 → V (f j)) (hv : ∀ j, V (J j)) : ∀ j, j < 256 → V (xt_put2 c lf tp w h J f j) := by
  unfold xt_put2
  refine xt_it_P (I := fun q : Nat → Int32 => ∀ j, j < 256 → V (q j)) h (fun y _ s hs => ?_) _ hf
  refine xt_it_P (I := fun q : Nat → Int32 => ∀ j, j < 256 → V (q j)) w (fun x _ s hs => ?_) _ hs
  exact xt_upd_ok hs (hv _)
theorem xt_exch_ok {V : Int32 → Prop} {c lf tp lf2 tp2 w h : Nat} {f : Nat → Int32} (hf : ∀ j, j < 256 → V (f j)) (h1 : ∀ y x, y < h → x < w → (tp + y) * c + (lf + x) < 256) (h2 : ∀ y x, y < h → x < w → (tp2 + y) * c + (lf2 + x) < 256) : ∀ j, j < 256 → V ((xt_exch c lf tp lf2 tp2 w h f).1 j) := by
  unfold xt_exch
  refine xt_it_P (I := fun q : (Nat → Int32) × Int32 => ∀ j, j < 256 → V (q.1 j)) h (fun y hy s hs => ?_) _ hf
  refine xt_it_P (I := fun q : (Nat → Int32) × Int32 => ∀ j, j < 256 → V (q.1 j)) w (fun x hx s hs => ?_) _ hs
  exact xt_upd_ok (xt_upd_ok hs (hs _ (h2 y x hy hx))) (hs _ (h1 y x hy hx))
theorem xt_add2_ok {V : Int32 → Prop} {c lf tp w h : Nat} {b : Int32} {f : Nat → Int32} (hw : lf + w ≤ c) (hf : ∀ j, j < 256 → V (f j)) (hv : ∀ y x, y < h → x < w → V (f ((tp + y) * c + (lf + x)) + b)) : ∀ j, j < 256 → V (xt_add2 c lf tp w h b f j) := by
  intro j hj
  rw [xt_add2_g]
  obtain ⟨g1, g2⟩ := xt_gu_g (pos := xt_pp9 c lf tp) (U := fun _ _ v => v + b) (w := w) (h := h) (xt_pp9_i hw) f h (Nat.le_refl _)
  by_cases hin : ∃ y x, y < h ∧ x < w ∧ j = xt_pp9 c lf tp y x
  · obtain ⟨y, x, hy, hx, rfl⟩ := hin
    rw [g1 y x hy hx]
    exact hv y x hy hx
  · rw [g2 j (fun y x hy hx e => hin ⟨y, x, hy, hx, e⟩)]
    exact hf j hj
theorem xt_pos_b {c r lf tp w h y x : Nat} (hc : c ≤ 16) (hr : r ≤ 16) (hw : lf + w ≤ c) (hh : tp + h ≤ r) (hy : y < h) (hx : x < w) : (tp + y) * c + (lf + x) < 256 := by
  have h1 : tp + y ≤ 15 := by omega
  have h2 : (tp + y) * c ≤ 15 * 16 := Nat.mul_le_mul h1 hc
  omega
/-- what is at hand before a change -/
theorem xt_ctx2 {S : xt_St} {A : xt_As} {c r sd lv bo : Nat} (hc : xt_CR S A) (hm : xt_MR S A) (hP : xt_Pic S 1 c r sd lv bo) : ∃ nx, xt_CH S A.hist nx ∧ xt_Hi S nx A.hist.length ∧ nx < 8 ∧ A.hist.length ≤ 8 ∧ (xt_keep S nx A.hist.length).2.1 2 = S.2.1 2 ∧ (xt_keep S nx A.hist.length).2.1 3 = S.2.1 3 ∧
    ∀ S', xt_mf S S' → S'.1 49 3 = nI A.hist.length ∧ ∀ i, i < 5 → S'.2.1 50 i = S.1 1 i := by
  obtain ⟨nx, hn⟩ := hc.2.1
  refine ⟨nx, hn, hn.1, hn.1.2.2.1, hn.1.2.2.2, xt_kpo_2 (by omega) (by omega), xt_kpo_2 (by omega) (by omega), fun S' m9 => ⟨?_, fun i hi => ?_⟩⟩
  · rw [m9.1 3 (by decide) (by decide) (by decide) (by decide)]; exact hm.2.1.1
  · rw [m9.2 50 (by decide), hm.1 i (by omega), ← hc.1 i (by omega), xt_pkp_0 hi]
variable {E : xt_Ev} {l : Launch} {S : xt_St} {A : xt_As} {c r sd lv bo nx : Nat}
theorem xt_keep_Pic {T0 : xt_St} {kp : Nat} (hP : xt_Pic S 1 c r sd lv bo) (hf : xt_fr S T0) (hx : nx < 8) {F : Nat → Int32} {i : Nat} : xt_Pic (xt_sA (xt_keep T0 nx kp) i F) 1 c r sd lv bo := by
  obtain ⟨a0, a1, a2, a3, a4, a5⟩ := hP
  have e : ∀ f, (xt_sA (xt_keep T0 nx kp) i F).1 1 f = S.1 1 f := fun f => by
    show (xt_keep T0 nx kp).1 1 f = _
    rw [xt_kpo_1 (by omega) (by decide), hf.1 1 f (by decide)]
  exact ⟨by rw [e]; exact a0, by rw [e]; exact a1, by rw [e]; exact a2, by rw [e]; exact a3, by rw [e]; exact a4, a5⟩
/-- the values changed -/
theorem xt_Sp_2 {W : (Option Value → xt_St → Prop) → Prop} {M : xt_St → (Option Value → xt_St → Prop) → Prop} (x : Int32) (F : Nat → Int32) (hA : xt_GA A) (hc : xt_CR S A) (hm : xt_MR S A) (hP : xt_Pic S 1 c r sd lv bo) (hk : ∀ j, j < 256 → S.2.1 3 j = nI 0 ∨ S.2.1 3 j = nI 1)
    (hK : ∀ S', xt_mf S S' → ∀ j, j < 256 → xt_mK S' j = S.2.1 3 j) (hn : xt_CH S A.hist nx) (hF : ∀ j, j < 256 → xt_vv (F j)) (hW : W (fun v S' => v = some (.int (nI 0)) ∧ ∃ T, (∃ T0, xt_fr S T0 ∧ T = xt_sA (xt_keep T0 nx A.hist.length) 2 F) ∧ S' = xt_o1 T x))
    (hM : ∀ S', xt_mf S S' → ∃ P, M S' (xt_Ep (some (.int x)) P) ∧ ∀ S9, P S9 → ∀ f, (∀ g, xt_fl9 5 g F (S'.2.1 50) → xt_e5 g f) → xt_Mc S' S9 A.hist.length f) : xt_Sp W M := by
  obtain ⟨nx', -, -, -, -, -, -, hm5⟩ := xt_ctx2 hc hm hP
  have hx := hn.1.2.2.1
  refine xt_Sp_ch x hA hm hW (fun T hT => ?_) (fun T S' hT m9 => ?_)
  · obtain ⟨T0, hf, rfl⟩ := hT
    refine ⟨xt_mf_tr (xt_fr_mf hf) (xt_mf_tr (xt_keep_mf (kp := A.hist.length) hx) ⟨fun _ _ _ _ _ => rfl, fun i hi => by
      have : ¬ i = 2 := by omega
      simp [xt_sA, this]⟩), xt_CR_ch hc hn hf (fun i f _ _ _ => rfl) (fun i _ _ h2 _ => by simp [xt_sA, h2]), xt_Gv_of (xt_keep_Pic hP hf hx) (fun j hj => ?_) (fun j hj => ?_)⟩
    · have e : (xt_sA (xt_keep T0 nx A.hist.length) 2 F).2.1 2 = F := by simp [xt_sA]
      rw [e]; exact hF j hj
    · have e : (xt_sA (xt_keep T0 nx A.hist.length) 2 F).2.1 3 = S.2.1 3 := by
        show (xt_keep T0 nx A.hist.length).2.1 3 = _
        rw [xt_kpo_2 (by omega) (by omega), hf.2.1 3 (by decide)]
      rw [e]; exact hk j hj
  · obtain ⟨T0, hf, rfl⟩ := hT
    obtain ⟨P, p1, p2⟩ := hM S' m9
    refine ⟨P, p1, fun S9 h9 => p2 S9 h9 _ (fun g hg => xt_e5_3 (fun i hi => ?_) (fun j hj => ?_) (fun j hj => ?_))⟩
    · rw [hg.2 i (by omega), (hm5 S' m9).2 i hi]
      show _ = (xt_keep T0 nx A.hist.length).1 1 i
      rw [xt_kpo_1 (by omega) (by decide), hf.1 1 i (by decide)]
    · rw [hg.1 j hj]; simp [xt_sA]
    · rw [hg.2 (261 + j) (by omega)]
      show _ = (xt_keep T0 nx A.hist.length).2.1 3 j
      rw [xt_kpo_2 (by omega) (by omega), hf.2.1 3 (by decide), ← hK S' m9 j hj]
      rfl
/-- the mask changed -/
theorem xt_Sp_3 {W : (Option Value → xt_St → Prop) → Prop} {M : xt_St → (Option Value → xt_St → Prop) → Prop} (x : Int32) (F : Nat → Int32) (hA : xt_GA A) (hc : xt_CR S A) (hm : xt_MR S A) (hP : xt_Pic S 1 c r sd lv bo) (hv : ∀ j, j < 256 → ∃ m, m ≤ 255 ∧ S.2.1 2 j = nI m)
    (hV : ∀ S', xt_mf S S' → ∀ j, j < 256 → xt_mV S' j = S.2.1 2 j) (hn : xt_CH S A.hist nx) (hF : ∀ j, j < 256 → F j = nI 0 ∨ F j = nI 1) (hW : W (fun v S' => v = some (.int (nI 0)) ∧ ∃ T, (∃ T0, xt_fr S T0 ∧ T = xt_sA (xt_keep T0 nx A.hist.length) 3 F) ∧ S' = xt_o1 T x))
    (hM : ∀ S', xt_mf S S' → ∃ P, M S' (xt_Ep (some (.int x)) P) ∧ ∀ S9, P S9 → ∀ f, (∀ g, xt_fl9 261 g F (S'.2.1 50) → xt_e5 g f) → xt_Mc S' S9 A.hist.length f) : xt_Sp W M := by
  obtain ⟨nx', -, -, -, -, -, -, hm5⟩ := xt_ctx2 hc hm hP
  have hx := hn.1.2.2.1
  refine xt_Sp_ch x hA hm hW (fun T hT => ?_) (fun T S' hT m9 => ?_)
  · obtain ⟨T0, hf, rfl⟩ := hT
    refine ⟨xt_mf_tr (xt_fr_mf hf) (xt_mf_tr (xt_keep_mf (kp := A.hist.length) hx) ⟨fun _ _ _ _ _ => rfl, fun i hi => by
      have : ¬ i = 3 := by omega
      simp [xt_sA, this]⟩), xt_CR_ch hc hn hf (fun i f _ _ _ => rfl) (fun i _ _ _ h3 => by simp [xt_sA, h3]), xt_Gv_of (xt_keep_Pic hP hf hx) (fun j hj => ?_) (fun j hj => ?_)⟩
    · have e : (xt_sA (xt_keep T0 nx A.hist.length) 3 F).2.1 2 = S.2.1 2 := by
        show (xt_keep T0 nx A.hist.length).2.1 2 = _
        rw [xt_kpo_2 (by omega) (by omega), hf.2.1 2 (by decide)]
      rw [e]; exact hv j hj
    · have e : (xt_sA (xt_keep T0 nx A.hist.length) 3 F).2.1 3 = F := by simp [xt_sA]
      rw [e]; exact hF j hj
  · obtain ⟨T0, hf, rfl⟩ := hT
    obtain ⟨P, p1, p2⟩ := hM S' m9
    refine ⟨P, p1, fun S9 h9 => p2 S9 h9 _ (fun g hg => xt_e5_3 (fun i hi => ?_) (fun j hj => ?_) (fun j hj => ?_))⟩
    · rw [hg.2 i (by omega), (hm5 S' m9).2 i hi]
      show _ = (xt_keep T0 nx A.hist.length).1 1 i
      rw [xt_kpo_1 (by omega) (by decide), hf.1 1 i (by decide)]
    · rw [hg.2 (5 + j) (by omega)]
      show _ = (xt_keep T0 nx A.hist.length).2.1 2 j
      rw [xt_kpo_2 (by omega) (by omega), hf.2.1 2 (by decide), ← hV S' m9 j hj]
      rfl
    · rw [hg.1 j hj]; simp [xt_sA]
theorem xt_fl9_upd {g0 F : Nat → Int32} {p : Nat} {v : Int32} (hp : p < 256) (h : ∀ j, j < 256 → g0 (5 + j) = F j) : xt_fl9 5 (upd g0 (5 + p) v) (upd F p v) g0 := by
  refine ⟨fun j hj => ?_, fun i hi => ?_⟩
  · unfold upd
    by_cases e : j = p
    · subst e; simp
    · have e2 : ¬ 5 + j = 5 + p := by omega
      rw [if_neg e2, if_neg e]; exact h j hj
  · unfold upd
    have e2 : ¬ i = 5 + p := by omega
    rw [if_neg e2]
theorem xt_least9 {P : Nat → Prop} (h : ∃ n, P n) : ∃ n, P n ∧ ∀ m, m < n → ¬ P m := by
  obtain ⟨n, hn⟩ := h
  by_cases hc : ∃ n, P n ∧ ∀ m, m < n → ¬ P m
  · exact hc
  · exfalso
    have : ∀ n, ¬ P n := by
      intro n
      induction n using Nat.strongRecOn with
      | ind n ih => exact fun hp => hc ⟨n, hp, ih⟩
    exact this n hn

abbrev xt_W_size (E : xt_Ev) (l : Launch) (S : xt_St) (a b : Int32) : (Option Value → xt_St → Prop) → Prop := fun Q => xt_CtH E l yL_size cL_size 5 (some Jvm.ClassFile.FieldType.int) hh_L_size (7 + 1) (110 + 22) 1 6 [.ref (E.1 0), .int a, .int b, .ref (E.1 67)] S Q
abbrev xt_M_size (E : xt_Ev) (l : Launch) (a b : Int32) : xt_St → (Option Value → xt_St → Prop) → Prop := fun S Q => xt_Ct E l yX6_size cX6_size 3 (some Jvm.ClassFile.FieldType.int) 3 60 0 0 [.ref (E.1 49), .int a, .int b] S Q
abbrev xt_W_setting (E : xt_Ev) (l : Launch) (S : xt_St) (a b : Int32) : (Option Value → xt_St → Prop) → Prop := fun Q => xt_CtH E l yL_setting cL_setting 5 (some Jvm.ClassFile.FieldType.int) hh_L_setting (7 + 1) (110 + 23) 1 6 [.ref (E.1 0), .int a, .int b, .ref (E.1 67)] S Q
abbrev xt_M_setting (E : xt_Ev) (l : Launch) (a b : Int32) : xt_St → (Option Value → xt_St → Prop) → Prop := fun S Q => xt_Ct E l yX6_setting cX6_setting 4 (some Jvm.ClassFile.FieldType.int) 2 43 0 0 [.ref (E.1 49), .int a, .int b] S Q
abbrev xt_W_set (E : xt_Ev) (l : Launch) (S : xt_St) (a b d : Int32) : (Option Value → xt_St → Prop) → Prop := fun Q => xt_CtH E l yL_set cL_set 6 (some Jvm.ClassFile.FieldType.int) hh_L_set (7 + 1) (110 + 25) 1 6 [.ref (E.1 0), .int a, .int b, .int d, .ref (E.1 67)] S Q
abbrev xt_M_set (E : xt_Ev) (l : Launch) (a b d : Int32) : xt_St → (Option Value → xt_St → Prop) → Prop := fun S Q => xt_Ct E l yX6_set cX6_set 5 (some Jvm.ClassFile.FieldType.int) 2 44 0 0 [.ref (E.1 49), .int a, .int b, .int d] S Q
abbrev xt_W_fill (E : xt_Ev) (l : Launch) (S : xt_St) (a b d e f : Int32) : (Option Value → xt_St → Prop) → Prop := fun Q => xt_CtH E l yL_fill cL_fill 8 (some Jvm.ClassFile.FieldType.int) hh_L_fill (7 + 1) (110 + 25) 1 6 [.ref (E.1 0), .int a, .int b, .int d, .int e, .int f, .ref (E.1 67)] S Q
abbrev xt_M_fill (E : xt_Ev) (l : Launch) (a b d e f : Int32) : xt_St → (Option Value → xt_St → Prop) → Prop := fun S Q => xt_Ct E l yX6_fill cX6_fill 6 (some Jvm.ClassFile.FieldType.int) 2 44 0 0 [.ref (E.1 49), .int a, .int b, .int d, .int e, .int f] S Q
abbrev xt_W_mask (E : xt_Ev) (l : Launch) (S : xt_St) (a b d e f : Int32) : (Option Value → xt_St → Prop) → Prop := fun Q => xt_CtH E l yL_mask cL_mask 8 (some Jvm.ClassFile.FieldType.int) hh_L_mask (7 + 1) (110 + 25) 1 6 [.ref (E.1 0), .int a, .int b, .int d, .int e, .int f, .ref (E.1 67)] S Q
abbrev xt_M_mask (E : xt_Ev) (l : Launch) (a b d e f : Int32) : xt_St → (Option Value → xt_St → Prop) → Prop := fun S Q => xt_Ct E l yX6_mask cX6_mask 7 (some Jvm.ClassFile.FieldType.int) 2 44 0 0 [.ref (E.1 49), .int a, .int b, .int d, .int e, .int f] S Q
abbrev xt_W_raise (E : xt_Ev) (l : Launch) (S : xt_St) (a b : Int32) : (Option Value → xt_St → Prop) → Prop := fun Q => xt_CtH E l yL_raise cL_raise 5 (some Jvm.ClassFile.FieldType.int) hh_L_raise (7 + 1) (113 + 23) 1 6 [.ref (E.1 0), .int a, .int b, .ref (E.1 67)] S Q
abbrev xt_M_raise (E : xt_Ev) (l : Launch) (a b : Int32) : xt_St → (Option Value → xt_St → Prop) → Prop := fun S Q => xt_Ct E l yX6_raise cX6_raise 7 (some Jvm.ClassFile.FieldType.int) 4 81 0 0 [.ref (E.1 49), .int a, .int b] S Q
abbrev xt_W_swap (E : xt_Ev) (l : Launch) (S : xt_St) (a b : Int32) : (Option Value → xt_St → Prop) → Prop := fun Q => xt_CtH E l yL_swap cL_swap 5 (some Jvm.ClassFile.FieldType.int) hh_L_swap (7 + 1) (114 + 22) 1 6 [.ref (E.1 0), .int a, .int b, .ref (E.1 67)] S Q
abbrev xt_M_swap (E : xt_Ev) (l : Launch) (a b : Int32) : xt_St → (Option Value → xt_St → Prop) → Prop := fun S Q => xt_Ct E l yX6_swap cX6_swap 13 (some Jvm.ClassFile.FieldType.int) 4 81 0 0 [.ref (E.1 49), .int a, .int b] S Q
abbrev xt_W_soften (E : xt_Ev) (l : Launch) (S : xt_St) (a b : Int32) : (Option Value → xt_St → Prop) → Prop := fun Q => xt_CtH E l yL_soften cL_soften 5 (some Jvm.ClassFile.FieldType.int) hh_L_soften (7 + 1) (131 + 22) 1 6 [.ref (E.1 0), .int a, .int b, .ref (E.1 67)] S Q
abbrev xt_M_soften (E : xt_Ev) (l : Launch) (a b : Int32) : xt_St → (Option Value → xt_St → Prop) → Prop := fun S Q => xt_Ct E l yX6_soften cX6_soften 6 (some Jvm.ClassFile.FieldType.int) 4 84 0 0 [.ref (E.1 49), .int a, .int b] S Q
theorem st_size (hst : l.stackTraces = false) (hI : xt_Inv S) (a : Int32) (b : Int32) : xt_Sp (xt_W_size E l S a b) (xt_M_size E l a b) := by
  obtain ⟨A, c, r, sd, lv, bo, hA, hc, hm, hg, hP, hvr, hk, hF⟩ := xt_ctx hI
  have hnt := (xt_Pic_nt hP).2
  obtain ⟨nx, hn, hh, hx8, hk8, k1, k2, hm5⟩ := xt_ctx2 hc hm hP
  obtain ⟨-, -, -, -, -, pc1, pc2, pr1, pr2, psd, -⟩ := id hP
  by_cases hb : (nI 2 ≤ a ∧ a ≤ nI 16) ∧ (nI 2 ≤ b ∧ b ≤ nI 16)
  · have r2 : ∀ z : Int32, nI 2 ≤ z ∧ z ≤ nI 16 → ∃ j, (2 ≤ j ∧ j ≤ 16) ∧ z = nI j := fun z hz => by
      obtain ⟨j, hj, rfl⟩ := xt_rng (n := 16) (by decide) ⟨by
        have h1 := Int32.le_iff_toInt_le.mp hz.1
        rw [nI_toInt (by decide)] at h1
        rw [Int32.le_iff_toInt_le, nI_toInt (by decide)]
        omega, hz.2⟩
      exact ⟨j, ⟨(nI_leI (by decide) (by omega)).mp hz.1, hj⟩, rfl⟩
    obtain ⟨c2, hc2, rfl⟩ := r2 a hb.1
    obtain ⟨q2, hq2, rfl⟩ := r2 b hb.2
    have hct := ct_size_ok (E := E) (l := l) (QX := fun _ _ => False) hP hh hc2 hq2
    rw [k1, k2] at hct
    refine xt_Sp_ch (S1 := fun T => T = xt_sA (xt_sA (xt_sN (xt_sN (xt_keep S nx A.hist.length) 1 0 (nI c2)) 1 1 (nI q2)) 2 (xt_zero 256 (S.2.1 2))) 3 (xt_zero 256 (S.2.1 3))) _ hA hm (wr_size hct (fun v S9 h9 => by obtain ⟨rfl, rfl⟩ := h9; exact ⟨_, rfl, rfl, _, rfl, rfl⟩) (fun _ _ h9 => h9.elim)) (fun T hT => ?_) (fun T S' hT m9 => ?_)
    · subst hT
      have hb1 : ∀ f, (xt_sA (xt_sA (xt_sN (xt_sN (xt_keep S nx A.hist.length) 1 0 (nI c2)) 1 1 (nI q2)) 2 (xt_zero 256 (S.2.1 2))) 3 (xt_zero 256 (S.2.1 3))).1 1 f = if f = 1 then nI q2 else if f = 0 then nI c2 else S.1 1 f := fun f => by
        have e := xt_kpo_1 (S := S) (nx := nx) (kp := A.hist.length) (i := 1) (f := f) (by omega) (by decide)
        simp [xt_sA, xt_sN, e]
      refine ⟨xt_mf_tr (xt_keep_mf (kp := A.hist.length) hx8) ⟨fun f _ _ _ _ => by simp [xt_sA, xt_sN], fun i hi => by
        have e2 : ¬ i = 2 := by omega
        have e3 : ¬ i = 3 := by omega
        simp [xt_sA, xt_sN, e2, e3]⟩, xt_CR_ch hc hn xt_fr_rf (fun i f _ _ h1 => by simp [xt_sA, xt_sN, h1]) (fun i _ _ h2 h3 => by simp [xt_sA, xt_sN, h2, h3]), xt_Gv_of (c := c2) (r := q2) (sd := sd) (lv := lv) (bo := bo) ?_ (fun j hj => ?_) (fun j hj => ?_)⟩
      · obtain ⟨a0, a1, a2, a3, a4, a5⟩ := id hP
        refine ⟨by rw [hb1]; rfl, by rw [hb1]; rfl, by rw [hb1]; exact a2, by rw [hb1]; exact a3, by rw [hb1]; exact a4, hc2.1, hc2.2, hq2.1, hq2.2, a5.2.2.2.2⟩
      · refine ⟨0, by decide, ?_⟩
        simp [xt_sA, xt_zero, hj, nI_0]
      · refine Or.inl ?_
        simp [xt_sA, xt_zero, hj, nI_0]
    · subst hT
      obtain ⟨f1, f2, f3⟩ := hF S' m9
      refine ⟨_, ct_msize f1 (hm5 S' m9).1 hk8 hc2 hq2, fun S9 h9 => ?_⟩
      subst h9
      refine xt_Mc_1 (xt_e5_3 (fun i hi => ?_) (fun j hj => ?_) (fun j hj => ?_))
      · have e := xt_kpo_1 (S := S) (nx := nx) (kp := A.hist.length) (i := 1) (f := i) (by omega) (by decide)
        have e9 := (hm5 S' m9).2 i hi
        have h5 : ¬ (5 ≤ i ∧ i < 5 + 512) := by omega
        unfold xt_ly
        by_cases i0 : i = 0
        · subst i0; simp [xt_sA, xt_sN]
        · by_cases i1 : i = 1
          · subst i1; simp [xt_sA, xt_sN]
          · simp only [i0, i1, h5, if_false]
            simp [xt_sA, xt_sN, e, e9, i0, i1]
      · have h5 : 5 ≤ 5 + j ∧ 5 + j < 5 + 512 := by omega
        have i0 : ¬ 5 + j = 0 := by omega
        have i1 : ¬ 5 + j = 1 := by omega
        unfold xt_ly
        rw [if_neg i0, if_neg i1, if_pos h5]
        simp [xt_sA, xt_zero, hj, nI_0]
      · have h5 : 5 ≤ 261 + j ∧ 261 + j < 5 + 512 := by omega
        have i0 : ¬ 261 + j = 0 := by omega
        have i1 : ¬ 261 + j = 1 := by omega
        unfold xt_ly
        rw [if_neg i0, if_neg i1, if_pos h5]
        simp [xt_sA, xt_zero, hj, nI_0]
  · skip
    refine xt_Sp_no (b := nI 0) hI 1 ⟨by decide, by decide⟩ (wr_size (ct_size_bad (Q := fun _ _ => False) hst hb) (fun _ _ h9 => h9.elim) (fun X S9 h9 => by obtain ⟨rfl, rfl⟩ := h9; exact ⟨rfl, rfl, xt_fr_rf⟩)) (fun S9 c9 m9 => ?_)
    obtain ⟨f1, f2, f3⟩ := hF S9 m9
    exact ct_msize_b hb
theorem st_setting (hst : l.stackTraces = false) (hI : xt_Inv S) (a : Int32) (b : Int32) : xt_Sp (xt_W_setting E l S a b) (xt_M_setting E l a b) := by
  obtain ⟨A, c, r, sd, lv, bo, hA, hc, hm, hg, hP, hvr, hk, hF⟩ := xt_ctx hI
  have hnt := (xt_Pic_nt hP).2
  obtain ⟨nx, hn, hh, hx8, hk8, k1, k2, hm5⟩ := xt_ctx2 hc hm hP
  obtain ⟨-, -, -, -, -, pc1, pc2, pr1, pr2, psd, -⟩ := id hP
  by_cases hb : xt_set a b
  · obtain ⟨j, hj, rfl⟩ : ∃ j, j < 3 ∧ a = nI j := by
      rcases hb with ⟨h1, -⟩ | ⟨h1, -⟩ | ⟨h1, -⟩
      · exact ⟨0, by decide, h1⟩
      · exact ⟨1, by decide, h1⟩
      · exact ⟨2, by decide, h1⟩
    have e2 : S.1 1 (2 + j) = S.1 1 (2 + j) := rfl
    refine xt_Sp_ch (S1 := fun T => T = xt_sN (xt_keep S nx A.hist.length) 1 (2 + j) b) (S.1 1 (2 + j)) hA hm (wr_setting (ct_setting_ok (QX := fun _ _ => False) hh hj hb) (fun v S9 h9 => by obtain ⟨rfl, rfl⟩ := h9; exact ⟨_, rfl, rfl, _, rfl, rfl⟩) (fun _ _ h9 => h9.elim)) (fun T hT => ?_) (fun T S' hT m9 => ?_)
    · subst hT
      have hb1 : ∀ f, (xt_sN (xt_keep S nx A.hist.length) 1 (2 + j) b).1 1 f = if f = 2 + j then b else S.1 1 f := fun f => by
        have e := xt_kpo_1 (S := S) (nx := nx) (kp := A.hist.length) (i := 1) (f := f) (by omega) (by decide)
        simp [xt_sN, e]
      refine ⟨xt_mf_tr (xt_keep_mf (kp := A.hist.length) hx8) ⟨fun f _ _ _ _ => by simp [xt_sN], fun i hi => rfl⟩, xt_CR_ch hc hn xt_fr_rf (fun i f _ _ h1 => by simp [xt_sN, h1]) (fun i _ _ _ _ => rfl), ?_⟩
      have hvs : ∀ j, j < 256 → ∃ m, m ≤ 255 ∧ (xt_sN (xt_keep S nx A.hist.length) 1 (2 + j) b).2.1 2 j = nI m := fun j hj => by
        show ∃ m, m ≤ 255 ∧ (xt_keep S nx A.hist.length).2.1 2 j = nI m
        rw [k1]; exact hvr j hj
      have hks : ∀ j, j < 256 → (xt_keep S nx A.hist.length).2.1 3 j = nI 0 ∨ (xt_keep S nx A.hist.length).2.1 3 j = nI 1 := fun j hj => by
        rw [k2]; exact hk j hj
      obtain ⟨a0, a1, a2, a3, a4, a5⟩ := id hP
      rcases hb with ⟨h1, h2⟩ | ⟨h1, h2⟩ | ⟨h1, h2⟩
      · have : j = 0 := (nI_eq (by omega) (by decide)).mp h1
        subst this
        obtain ⟨sd2, hs2, rfl⟩ : ∃ s2, (s2 = 2 ∨ s2 = 4 ∨ s2 = 8) ∧ b = nI s2 := by
          rcases h2 with h2 | h2 | h2
          · exact ⟨2, by decide, h2⟩
          · exact ⟨4, by decide, h2⟩
          · exact ⟨8, by decide, h2⟩
        exact xt_Gv_of (c := c) (r := r) (sd := sd2) (lv := lv) (bo := bo) ⟨by rw [hb1]; exact a0, by rw [hb1]; exact a1, by rw [hb1]; rfl, by rw [hb1]; exact a3, by rw [hb1]; exact a4, a5.1, a5.2.1, a5.2.2.1, a5.2.2.2.1, hs2, a5.2.2.2.2.2⟩ (fun j hj => by show ∃ m, m ≤ 255 ∧ (xt_keep S nx A.hist.length).2.1 2 j = nI m; rw [k1]; exact hvr j hj) hks
      · have : j = 1 := (nI_eq (by omega) (by decide)).mp h1
        subst this
        obtain ⟨l2, hl2, rfl⟩ := xt_rng (by decide) h2
        exact xt_Gv_of (c := c) (r := r) (sd := sd) (lv := l2) (bo := bo) ⟨by rw [hb1]; exact a0, by rw [hb1]; exact a1, by rw [hb1]; exact a2, by rw [hb1]; rfl, by rw [hb1]; exact a4, a5.1, a5.2.1, a5.2.2.1, a5.2.2.2.1, a5.2.2.2.2.1, hl2, a5.2.2.2.2.2.2⟩ (fun j hj => by show ∃ m, m ≤ 255 ∧ (xt_keep S nx A.hist.length).2.1 2 j = nI m; rw [k1]; exact hvr j hj) hks
      · have : j = 2 := (nI_eq (by omega) (by decide)).mp h1
        subst this
        obtain ⟨b2, hb2, rfl⟩ := xt_rng (by decide) h2
        exact xt_Gv_of (c := c) (r := r) (sd := sd) (lv := lv) (bo := b2) ⟨by rw [hb1]; exact a0, by rw [hb1]; exact a1, by rw [hb1]; exact a2, by rw [hb1]; exact a3, by rw [hb1]; rfl, a5.1, a5.2.1, a5.2.2.1, a5.2.2.2.1, a5.2.2.2.2.1, a5.2.2.2.2.2.1, hb2⟩ (fun j hj => by show ∃ m, m ≤ 255 ∧ (xt_keep S nx A.hist.length).2.1 2 j = nI m; rw [k1]; exact hvr j hj) hks
    · subst hT
      obtain ⟨f1, f2, f3⟩ := hF S' m9
      rw [← (hm5 S' m9).2 (2 + j) (by omega)]
      refine ⟨_, ct_msetting (hm5 S' m9).1 hk8 hj hb, fun S9 h9 => ?_⟩
      subst h9
      refine xt_Mc_1 (xt_e5_3 (fun i hi => ?_) (fun i hi => ?_) (fun i hi => ?_))
      · have e := xt_kpo_1 (S := S) (nx := nx) (kp := A.hist.length) (i := 1) (f := i) (by omega) (by decide)
        have e9 := (hm5 S' m9).2 i hi
        unfold upd
        by_cases i0 : i = 2 + j
        · subst i0; simp [xt_sN]
        · simp [xt_sN, e, e9, i0]
      · have i0 : ¬ 5 + i = 2 + j := by omega
        unfold upd
        rw [if_neg i0]
        show _ = (xt_keep S nx A.hist.length).2.1 2 i
        rw [k1]; exact f2 i hi
      · have i0 : ¬ 261 + i = 2 + j := by omega
        unfold upd
        rw [if_neg i0]
        show _ = (xt_keep S nx A.hist.length).2.1 3 i
        rw [k2]; exact f3 i hi
  · by_cases h3 : nI 0 ≤ a ∧ a ≤ nI 2
    · obtain ⟨j, hj, rfl⟩ := xt_rng (by decide) h3
      refine xt_Sp_no (b := nI 0) hI 1 ⟨by decide, by decide⟩ (wr_setting (ct_setting_bad (Q := fun _ _ => False) hst hb) (fun _ _ h9 => h9.elim) (fun X S9 h9 => by obtain ⟨rfl, rfl⟩ := h9; exact ⟨rfl, rfl, xt_fr_rf⟩)) (fun S9 c9 m9 => ?_)
      obtain ⟨f1, f2, f3⟩ := hF S9 m9
      exact ct_msetting_b2 (by omega) hb
    · skip
      refine xt_Sp_no (b := nI 0) hI 1 ⟨by decide, by decide⟩ (wr_setting (ct_setting_bad (Q := fun _ _ => False) hst hb) (fun _ _ h9 => h9.elim) (fun X S9 h9 => by obtain ⟨rfl, rfl⟩ := h9; exact ⟨rfl, rfl, xt_fr_rf⟩)) (fun S9 c9 m9 => ?_)
      obtain ⟨f1, f2, f3⟩ := hF S9 m9
      exact ct_msetting_b1 h3
theorem st_set (hst : l.stackTraces = false) (hI : xt_Inv S) (a : Int32) (b : Int32) (d : Int32) : xt_Sp (xt_W_set E l S a b d) (xt_M_set E l a b d) := by
  obtain ⟨A, c, r, sd, lv, bo, hA, hc, hm, hg, hP, hvr, hk, hF⟩ := xt_ctx hI
  have hnt := (xt_Pic_nt hP).2
  obtain ⟨nx, hn, hh, hx8, hk8, k1, k2, hm5⟩ := xt_ctx2 hc hm hP
  obtain ⟨-, -, -, -, -, pc1, pc2, pr1, pr2, psd, -⟩ := id hP
  by_cases hp : xt_pix c r a b
  · have hp9 := hp
    by_cases hz : nI 0 ≤ d ∧ d ≤ nI 255
    · obtain ⟨⟨x, hx, rfl⟩, y, hy, rfl⟩ := hp
      have hct := ct_set_ok (E := E) (l := l) (QX := fun _ _ => False) hP hx hy hh hz
      rw [k1] at hct
      have hpb : y * c + x < 256 := by have h2 : y * c ≤ 15 * 16 := Nat.mul_le_mul (by omega) pc2; omega
      refine xt_Sp_2 (S.2.1 2 (y * c + x)) (upd (S.2.1 2) (y * c + x) d) hA hc hm hP hk (fun S' m9 => (hF S' m9).2.2) hn (xt_upd_ok hvr (xt_vv_of hz)) (wr_set hct (fun v S9 h9 => by obtain ⟨rfl, rfl⟩ := h9; exact ⟨_, rfl, rfl, _, ⟨S, xt_fr_rf, rfl⟩, rfl⟩) (fun _ _ h9 => h9.elim)) (fun S' m9 => ?_)
      obtain ⟨f1, f2, f3⟩ := hF S' m9
      rw [← f2 (y * c + x) hpb]
      refine ⟨_, ct_mset f1 (hm5 S' m9).1 hk8 hx hy hz, fun S9 h9 f hf => ?_⟩
      subst h9
      exact xt_Mc_1 (hf _ (xt_fl9_upd hpb f2))
    · skip
      refine xt_Sp_no (b := nI 0) hI 2 ⟨by decide, by decide⟩ (wr_set (ct_set_bad2 (Q := fun _ _ => False) hst hP hp hz) (fun _ _ h9 => h9.elim) (fun X S9 h9 => by obtain ⟨rfl, rfl⟩ := h9; exact Or.inr ⟨rfl, rfl, xt_fr_rf⟩)) (fun S9 c9 m9 => ?_)
      obtain ⟨f1, f2, f3⟩ := hF S9 m9
      exact ct_mset_b2 f1 hp hz
  · skip
    refine xt_Sp_no (b := nI 0) hI 1 ⟨by decide, by decide⟩ (wr_set (ct_set_bad1 (Q := fun _ _ => False) hst hP hp) (fun _ _ h9 => h9.elim) (fun X S9 h9 => by obtain ⟨rfl, rfl⟩ := h9; exact Or.inl ⟨rfl, rfl, xt_fr_rf⟩)) (fun S9 c9 m9 => ?_)
    obtain ⟨f1, f2, f3⟩ := hF S9 m9
    exact ct_mset_b1 f1 hp
theorem st_fill (hst : l.stackTraces = false) (hI : xt_Inv S) (a : Int32) (b : Int32) (d : Int32) (e : Int32) (f : Int32) : xt_Sp (xt_W_fill E l S a b d e f) (xt_M_fill E l a b d e f) := by
  obtain ⟨A, c, r, sd, lv, bo, hA, hc, hm, hg, hP, hvr, hk, hF⟩ := xt_ctx hI
  have hnt := (xt_Pic_nt hP).2
  obtain ⟨nx, hn, hh, hx8, hk8, k1, k2, hm5⟩ := xt_ctx2 hc hm hP
  obtain ⟨-, -, -, -, -, pc1, pc2, pr1, pr2, psd, -⟩ := id hP
  by_cases hp : xt_pix c r a b ∧ xt_pix c r d e
  · by_cases h3 : d < a ∨ ¬ b ≤ e
    · skip
      refine xt_Sp_no (b := nI 0) hI 2 ⟨by decide, by decide⟩ (wr_fill (ct_fill_bad2 (Q := fun _ _ => False) hst hP hp.1 hp.2 h3) (fun _ _ h9 => h9.elim) (fun X S9 h9 => by obtain ⟨rfl, rfl⟩ := h9; exact Or.inr ⟨rfl, rfl, xt_fr_rf⟩)) (fun S9 c9 m9 => ?_)
      obtain ⟨f1, f2, f3⟩ := hF S9 m9
      exact ct_mfill_b2 f1 hp.1 hp.2 (h3.elim Or.inl (fun h => Or.inr (Or.inl h)))
    · have hp1 := hp.1
      have hp2 := hp.2
      have h31 : ¬ d < a := fun h => h3 (Or.inl h)
      have h32 : b ≤ e := by
        by_cases h : b ≤ e
        · exact h
        · exact absurd (Or.inr h) h3
      obtain ⟨⟨x1, hx1, rfl⟩, y1, hy1, rfl⟩ := hp1
      obtain ⟨⟨x2, hx2, rfl⟩, y2, hy2, rfl⟩ := hp2
      have hx12 : x1 ≤ x2 := by
        by_cases h : x2 < x1
        · exact absurd ((nI_ltI (by omega) (by omega)).mpr h) h31
        · omega
      have hy12 : y1 ≤ y2 := (nI_leI (by omega) (by omega)).mp h32
      obtain ⟨w9, rfl⟩ : ∃ w9, x2 = x1 + (w9 + 1) - 1 := ⟨x2 - x1, by omega⟩
      obtain ⟨h9, rfl⟩ : ∃ h9, y2 = y1 + (h9 + 1) - 1 := ⟨y2 - y1, by omega⟩

      by_cases hz : nI 0 ≤ f ∧ f ≤ nI 255
      · have hct := ct_fill_ok (E := E) (l := l) (QX := fun _ _ => False) hP hh (lf := x1) (tp := y1) (w := w9 + 1) (h := h9 + 1) (by omega) (by omega) (by omega) (by omega) hz
        rw [k1] at hct
        refine xt_Sp_2 (xt_paint c x1 y1 (w9 + 1) (h9 + 1) f (S.2.1 2)).2 (xt_paint c x1 y1 (w9 + 1) (h9 + 1) f (S.2.1 2)).1 hA hc hm hP hk (fun S' m9 => (hF S' m9).2.2) hn (xt_paint_ok hvr (xt_vv_of hz)) (wr_fill hct (fun v S9 h9 => by obtain ⟨rfl, rfl⟩ := h9; exact ⟨_, rfl, rfl, _, ⟨S, xt_fr_rf, rfl⟩, rfl⟩) (fun _ _ h9 => h9.elim)) (fun S' m9 => ?_)
        obtain ⟨f1, f2, f3⟩ := hF S' m9
        refine ⟨_, ct_mfill f1 f2 (hm5 S' m9).1 hk8 (by omega) (by omega) (by omega) (by omega) hz, fun S9 h9 f hf => ?_⟩
        obtain ⟨g, rfl, hg9⟩ := h9
        exact xt_Mc_1 (hf _ hg9)
      · skip
        refine xt_Sp_no (b := nI 0) hI 2 ⟨by decide, by decide⟩ (wr_fill (ct_fill_bad3 (Q := fun _ _ => False) hst hP hp.1 hp.2 h31 h32 hz) (fun _ _ h9 => h9.elim) (fun X S9 h9 => by obtain ⟨rfl, rfl⟩ := h9; exact Or.inr ⟨rfl, rfl, xt_fr_rf⟩)) (fun S9 c9 m9 => ?_)
        obtain ⟨f1, f2, f3⟩ := hF S9 m9
        exact ct_mfill_b2 f1 hp.1 hp.2 (Or.inr (Or.inr hz))
  · skip
    refine xt_Sp_no (b := nI 0) hI 1 ⟨by decide, by decide⟩ (wr_fill (ct_fill_bad1 (Q := fun _ _ => False) hst hP hp) (fun _ _ h9 => h9.elim) (fun X S9 h9 => by obtain ⟨rfl, rfl⟩ := h9; exact Or.inl ⟨rfl, rfl, xt_fr_rf⟩)) (fun S9 c9 m9 => ?_)
    obtain ⟨f1, f2, f3⟩ := hF S9 m9
    exact ct_mfill_b1 f1 hp
theorem st_mask (hst : l.stackTraces = false) (hI : xt_Inv S) (a : Int32) (b : Int32) (d : Int32) (e : Int32) (f : Int32) (hf9 : f = nI 0 ∨ f = nI 1) : xt_Sp (xt_W_mask E l S a b d e f) (xt_M_mask E l a b d e f) := by
  obtain ⟨A, c, r, sd, lv, bo, hA, hc, hm, hg, hP, hvr, hk, hF⟩ := xt_ctx hI
  have hnt := (xt_Pic_nt hP).2
  obtain ⟨nx, hn, hh, hx8, hk8, k1, k2, hm5⟩ := xt_ctx2 hc hm hP
  obtain ⟨-, -, -, -, -, pc1, pc2, pr1, pr2, psd, -⟩ := id hP
  by_cases hp : xt_pix c r a b ∧ xt_pix c r d e
  · by_cases h3 : d < a ∨ ¬ b ≤ e
    · skip
      refine xt_Sp_no (b := nI 0) hI 2 ⟨by decide, by decide⟩ (wr_mask (ct_mask_bad2 (Q := fun _ _ => False) hst hP hp.1 hp.2 h3) (fun _ _ h9 => h9.elim) (fun X S9 h9 => by obtain ⟨rfl, rfl⟩ := h9; exact Or.inr ⟨rfl, rfl, xt_fr_rf⟩)) (fun S9 c9 m9 => ?_)
      obtain ⟨f1, f2, f3⟩ := hF S9 m9
      exact ct_mmask_b2 f1 hp.1 hp.2 h3
    · have hp1 := hp.1
      have hp2 := hp.2
      have h31 : ¬ d < a := fun h => h3 (Or.inl h)
      have h32 : b ≤ e := by
        by_cases h : b ≤ e
        · exact h
        · exact absurd (Or.inr h) h3
      obtain ⟨⟨x1, hx1, rfl⟩, y1, hy1, rfl⟩ := hp1
      obtain ⟨⟨x2, hx2, rfl⟩, y2, hy2, rfl⟩ := hp2
      have hx12 : x1 ≤ x2 := by
        by_cases h : x2 < x1
        · exact absurd ((nI_ltI (by omega) (by omega)).mpr h) h31
        · omega
      have hy12 : y1 ≤ y2 := (nI_leI (by omega) (by omega)).mp h32
      obtain ⟨w9, rfl⟩ : ∃ w9, x2 = x1 + (w9 + 1) - 1 := ⟨x2 - x1, by omega⟩
      obtain ⟨h9, rfl⟩ : ∃ h9, y2 = y1 + (h9 + 1) - 1 := ⟨y2 - y1, by omega⟩

      obtain ⟨m, hm1, rfl⟩ : ∃ m, m ≤ 1 ∧ f = nI m := by
        rcases hf9 with h | h
        · exact ⟨0, by decide, h⟩
        · exact ⟨1, by decide, h⟩
      have hct := ct_mask_ok (E := E) (l := l) (QX := fun _ _ => False) hP hh (lf := x1) (tp := y1) (w := w9 + 1) (h := h9 + 1) (by omega) (by omega) (by omega) (by omega) hm1
      rw [k2] at hct
      refine xt_Sp_3 (xt_it (fun i s => s + (xt_paint c x1 y1 (w9 + 1) (h9 + 1) (nI m) (S.2.1 3)).1 i) (c * r) 0) (xt_paint c x1 y1 (w9 + 1) (h9 + 1) (nI m) (S.2.1 3)).1 hA hc hm hP hvr (fun S' m9 => (hF S' m9).2.1) hn (xt_paint_ok (V := fun x => x = nI 0 ∨ x = nI 1) hk hf9) (wr_mask hct (fun v S9 h9 => by obtain ⟨rfl, rfl⟩ := h9; exact ⟨_, rfl, rfl, _, ⟨S, xt_fr_rf, rfl⟩, rfl⟩) (fun _ _ h9 => h9.elim)) (fun S' m9 => ?_)
      obtain ⟨f1, f2, f3⟩ := hF S' m9
      refine ⟨_, ct_mmask f1 f3 (hm5 S' m9).1 hk8 (by omega) (by omega) (by omega) (by omega) hm1, fun S9 h9 f hf => ?_⟩
      obtain ⟨g, rfl, hg9⟩ := h9
      exact xt_Mc_1 (hf _ hg9)
  · skip
    refine xt_Sp_no (b := nI 0) hI 1 ⟨by decide, by decide⟩ (wr_mask (ct_mask_bad1 (Q := fun _ _ => False) hst hP hp) (fun _ _ h9 => h9.elim) (fun X S9 h9 => by obtain ⟨rfl, rfl⟩ := h9; exact Or.inl ⟨rfl, rfl, xt_fr_rf⟩)) (fun S9 c9 m9 => ?_)
    obtain ⟨f1, f2, f3⟩ := hF S9 m9
    exact ct_mmask_b1 f1 hp
end XL4
