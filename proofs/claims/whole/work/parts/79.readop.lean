/-! read, both sides -/
section XL6
theorem xt_fl_q {a : Nat → Int32} {n : Nat} : ∀ f it b q q', (∀ j, j < it → j < 20 → q j = q' j) → (xt_fl a n f it b q).1 = (xt_fl a n f it b q').1 ∧ (xt_fl a n f it b q).2.1 = (xt_fl a n f it b q').2.1 ∧ ∀ j, j < (xt_fl a n f it b q).2.1 → j < 20 → (xt_fl a n f it b q).2.2 j = (xt_fl a n f it b q').2.2 j := by
  intro f
  induction f with
  | zero => intro it b q q' h; exact ⟨rfl, rfl, fun j h1 h2 => h j h1 h2⟩
  | succ f ih =>
    intro it b q q' h
    have hu : ∀ j, j < it + 1 → j < 20 → (if it < 20 then upd q it (nI b) else q) j = (if it < 20 then upd q' it (nI b) else q') j := by
      intro j h1 h2
      by_cases e : it < 20
      · rw [if_pos e, if_pos e]
        unfold upd
        by_cases e2 : j = it
        · rw [if_pos e2, if_pos e2]
        · rw [if_neg e2, if_neg e2]; exact h j (by omega) h2
      · rw [if_neg e, if_neg e]; exact h j (by omega) h2
    rw [xt_fl, xt_fl]
    by_cases h1 : xt_fo (xt_sg a n b) = 24
    · rw [if_pos h1, if_pos h1]; exact ⟨rfl, rfl, fun j g1 g2 => hu j (Nat.lt_succ_of_lt g1) g2⟩
    · rw [if_neg h1, if_neg h1]
      by_cases h2 : xt_fe a n (xt_fo (xt_sg a n b)) (b + 1) < xt_tl.getD (xt_fo (xt_sg a n b)) 0
      · rw [if_pos h2, if_pos h2]; exact ⟨rfl, rfl, fun j g1 g2 => hu j (Nat.lt_succ_of_lt g1) g2⟩
      · rw [if_neg h2, if_neg h2]
        by_cases h3 : n ≤ b + 1 + xt_fe a n (xt_fo (xt_sg a n b)) (b + 1)
        · rw [if_pos h3, if_pos h3]; exact ⟨rfl, rfl, fun j g1 g2 => hu j g1 g2⟩
        · rw [if_neg h3, if_neg h3]
          by_cases h4 : xt_sg a n (b + 1 + xt_fe a n (xt_fo (xt_sg a n b)) (b + 1)) ≠ nI 59
          · rw [if_pos h4, if_pos h4]; exact ⟨rfl, rfl, fun j g1 g2 => hu j g1 g2⟩
          · rw [if_neg h4, if_neg h4]
            exact ih (it + 1) _ _ _ hu
/-- an item that fits its form -/
def xt_FT (a : Nat → Int32) (n b : Nat) : Prop := ¬ xt_fo (xt_sg a n b) = 24 ∧ ¬ xt_fe a n (xt_fo (xt_sg a n b)) (b + 1) < xt_tl.getD (xt_fo (xt_sg a n b)) 0
theorem xt_fl_w {a : Nat → Int32} {n : Nat} (h60 : n ≤ 60) : ∀ f it b q (st : Nat → Nat), f + it = 60 → 3 * it ≤ b → b ≤ n → (∀ j, j < it → q j = nI (st j) ∧ st j < n ∧ xt_FT a n (st j)) → (∃ p, p < 1000 ∧ (xt_fl a n f it b q).1 = nI p) ∨ ((xt_fl a n f it b q).1 = -1 ∧ (xt_fl a n f it b q).2.1 ≤ 20 ∧ ∃ st' : Nat → Nat, ∀ j, j < (xt_fl a n f it b q).2.1 → (xt_fl a n f it b q).2.2 j = nI (st' j) ∧ st' j < n ∧ xt_FT a n (st' j)) := by
  intro f
  induction f with
  | zero => intro it b q st h1 h2 h3; omega
  | succ f ih =>
    intro it b q st h1 h2 h3 hst
    rw [xt_fl]
    by_cases hfo : xt_fo (xt_sg a n b) = 24
    · rw [if_pos hfo]
      exact Or.inl ⟨b, by omega, rfl⟩
    · rw [if_neg hfo]
      have hb24 := xt_fo_b (x := xt_sg a n b)
      have htl := xt_tl1 hb24.1 (by omega)
      have hle9 : xt_fe a n (xt_fo (xt_sg a n b)) (b + 1) ≤ xt_tl.getD (xt_fo (xt_sg a n b)) 0 := xt_pre_le
      have hbl : b < n := Nat.lt_of_not_le (fun z => hfo (by rw [xt_sg0 z]; decide +kernel))
      by_cases hlt9 : xt_fe a n (xt_fo (xt_sg a n b)) (b + 1) < xt_tl.getD (xt_fo (xt_sg a n b)) 0
      · rw [if_pos hlt9]
        exact Or.inl ⟨_, by omega, rfl⟩
      · have hnew : ∀ j, j < it + 1 → xt_nq q it b j = nI (xt_nst st it b j) ∧ xt_nst st it b j < n ∧ xt_FT a n (xt_nst st it b j) := by
          intro j hj
          refine ⟨xt_nq_s (by omega) (fun j hj => (hst j hj).1) j hj, ?_⟩
          by_cases e : j = it
          · rw [e, xt_nst_s]; exact ⟨hbl, hfo, hlt9⟩
          · rw [xt_nst_n (by omega)]; exact (hst j (by omega)).2
        rw [if_neg hlt9]
        by_cases hend : n ≤ b + 1 + xt_fe a n (xt_fo (xt_sg a n b)) (b + 1)
        · rw [if_pos hend]
          exact Or.inr ⟨rfl, by show it + 1 ≤ 20; omega, _, hnew⟩
        · rw [if_neg hend]
          by_cases h59 : xt_sg a n (b + 1 + xt_fe a n (xt_fo (xt_sg a n b)) (b + 1)) ≠ nI 59
          · rw [if_pos h59]
            exact Or.inl ⟨_, by omega, rfl⟩
          · rw [if_neg h59]
            exact ih (it + 1) _ _ (xt_nst st it b) (by omega) (by omega) (by omega) hnew
/-- the two numbers of a rectangle's value -/
theorem xt_FT_r {a : Nat → Int32} {n b : Nat} (h : xt_FT a n b) (hr : xt_sg a n b = nI 114) : xt_vv (nI 16 * xt_hx (xt_sg a n (b + 6)) + xt_hx (xt_sg a n (b + 7))) := by
  have hf : xt_fo (xt_sg a n b) = 21 := by rw [hr]; decide +kernel
  obtain ⟨-, h2⟩ := h
  rw [hf] at h2
  have h7 : xt_tl.getD 21 0 = 7 := by decide +kernel
  rw [h7] at h2
  have hp := xt_pre_sp (P := fun k => xt_ft ((xt_tb.getD 21 []).getD k 0) (xt_sg a n (b + 1 + k))) 7
  have he : xt_fe a n 21 (b + 1) = xt_pre (fun k => xt_ft ((xt_tb.getD 21 []).getD k 0) (xt_sg a n (b + 1 + k))) 7 := by unfold xt_fe; rw [h7]
  rw [he] at h2
  have g5 := hp.1 5 (by omega)
  have g6 := hp.1 6 (by omega)
  have e5 : (xt_tb.getD 21 []).getD 5 0 = nI 104 := by decide +kernel
  have e6 : (xt_tb.getD 21 []).getD 6 0 = nI 104 := by decide +kernel
  have hft : ∀ x, xt_ft (nI 104) x → ∃ m, m < 16 ∧ xt_hx x = nI m := fun x hx => by
    unfold xt_ft at hx
    rw [if_neg (by decide), if_neg (by decide), if_pos rfl] at hx
    exact xt_hx_r hx
  obtain ⟨m1, hm1, q1⟩ := hft _ (e5 ▸ g5)
  obtain ⟨m2, hm2, q2⟩ := hft _ (e6 ▸ g6)
  have r1 : b + 1 + 5 = b + 6 := by omega
  have r2 : b + 1 + 6 = b + 7 := by omega
  rw [r1] at q1
  rw [r2] at q2
  rw [q1, q2]
  refine ⟨16 * m1 + m2, by omega, ?_⟩
  have em : nI 16 * nI m1 = nI (16 * m1) := (Int32.ofNat_mul 16 m1).symm
  rw [em, nI_add]
theorem xt_Gp_fl {o W : Nat → Int32} {c r sd lv bo part : Nat} {P : Nat → Int32} (h : xt_Gp o c r sd lv bo) (hf : xt_fl9 part W P o) (hp : (part = 5 ∧ ∀ j, j < 256 → xt_vv (P j)) ∨ (part = 261 ∧ ∀ j, j < 256 → P j = nI 0 ∨ P j = nI 1)) : xt_Gp W c r sd lv bo := by
  obtain ⟨⟨a0, a1, a2, a3, a4, a5⟩, b, d⟩ := h
  have hs : 5 ≤ part := by rcases hp with h | h <;> omega
  refine ⟨⟨by rw [hf.2 0 (by omega)]; exact a0, by rw [hf.2 1 (by omega)]; exact a1, by rw [hf.2 2 (by omega)]; exact a2, by rw [hf.2 3 (by omega)]; exact a3, by rw [hf.2 4 (by omega)]; exact a4, a5⟩, fun j hj => ?_, fun j hj => ?_⟩
  · rcases hp with ⟨rfl, h9⟩ | ⟨rfl, h9⟩
    · rw [hf.1 j hj]; exact h9 j hj
    · rw [hf.2 (5 + j) (by omega)]; exact b j hj
  · rcases hp with ⟨rfl, h9⟩ | ⟨rfl, h9⟩
    · rw [hf.2 (261 + j) (by omega)]; exact d j hj
    · rw [hf.1 j hj]; exact h9 j hj
theorem xt_apm_G {a : Nat → Int32} {n b c r sd lv bo : Nat} {o W : Nat → Int32} (h : xt_Gp o c r sd lv bo) (hap : xt_apm a n b c o W) (hw : xt_why a n b c r = -1) (hft : xt_FT a n b) : ∃ sd lv bo, xt_Gp W c r sd lv bo := by
  rcases hap with ⟨j, hj, hso, rfl⟩ | ⟨-, lf, tp, w, q, -, -, -, -, -, -, -, -, h9⟩
  · have hset : xt_set (nI j) (xt_hx (xt_sg a n (b + 1))) := by
      apply Classical.byContradiction
      intro hno
      unfold xt_why at hw
      rw [hso, if_neg (nI_pos (by omega)), if_neg hno] at hw
      exact absurd hw (by decide)
    obtain ⟨⟨a0, a1, a2, a3, a4, a5⟩, b9, d9⟩ := h
    have u : ∀ i, i ≠ 2 + j → upd o (2 + j) (xt_hx (xt_sg a n (b + 1))) i = o i := fun i hi => by unfold upd; rw [if_neg hi]
    have us : upd o (2 + j) (xt_hx (xt_sg a n (b + 1))) (2 + j) = xt_hx (xt_sg a n (b + 1)) := by unfold upd; rw [if_pos rfl]
    have gv : ∀ i, i < 256 → ∃ m, m ≤ 255 ∧ upd o (2 + j) (xt_hx (xt_sg a n (b + 1))) (5 + i) = nI m := fun i hi => by rw [u _ (by omega)]; exact b9 i hi
    have gk : ∀ i, i < 256 → upd o (2 + j) (xt_hx (xt_sg a n (b + 1))) (261 + i) = nI 0 ∨ upd o (2 + j) (xt_hx (xt_sg a n (b + 1))) (261 + i) = nI 1 := fun i hi => by rw [u _ (by omega)]; exact d9 i hi
    rcases hset with ⟨h1, h2⟩ | ⟨h1, h2⟩ | ⟨h1, h2⟩
    · have : j = 0 := (nI_eq (by omega) (by decide)).mp h1
      subst this
      obtain ⟨sd2, hs2, e2⟩ : ∃ s2, (s2 = 2 ∨ s2 = 4 ∨ s2 = 8) ∧ xt_hx (xt_sg a n (b + 1)) = nI s2 := by
        rcases h2 with h2 | h2 | h2
        · exact ⟨2, by decide, h2⟩
        · exact ⟨4, by decide, h2⟩
        · exact ⟨8, by decide, h2⟩
      exact ⟨sd2, lv, bo, ⟨by rw [u 0 (by omega)]; exact a0, by rw [u 1 (by omega)]; exact a1, by rw [← e2]; exact us, by rw [u 3 (by omega)]; exact a3, by rw [u 4 (by omega)]; exact a4, a5.1, a5.2.1, a5.2.2.1, a5.2.2.2.1, hs2, a5.2.2.2.2.2⟩, gv, gk⟩
    · have : j = 1 := (nI_eq (by omega) (by decide)).mp h1
      subst this
      obtain ⟨l2, hl2, e2⟩ := xt_rng (by decide) h2
      exact ⟨sd, l2, bo, ⟨by rw [u 0 (by omega)]; exact a0, by rw [u 1 (by omega)]; exact a1, by rw [u 2 (by omega)]; exact a2, by rw [← e2]; exact us, by rw [u 4 (by omega)]; exact a4, a5.1, a5.2.1, a5.2.2.1, a5.2.2.2.1, a5.2.2.2.2.1, hl2, a5.2.2.2.2.2.2⟩, gv, gk⟩
    · have : j = 2 := (nI_eq (by omega) (by decide)).mp h1
      subst this
      obtain ⟨b2, hb2, e2⟩ := xt_rng (by decide) h2
      exact ⟨sd, lv, b2, ⟨by rw [u 0 (by omega)]; exact a0, by rw [u 1 (by omega)]; exact a1, by rw [u 2 (by omega)]; exact a2, by rw [u 3 (by omega)]; exact a3, by rw [← e2]; exact us, a5.1, a5.2.1, a5.2.2.1, a5.2.2.2.1, a5.2.2.2.2.1, a5.2.2.2.2.2.1, hb2⟩, gv, gk⟩
  · refine ⟨sd, lv, bo, ?_⟩
    rcases h9 with ⟨hr, hf⟩ | ⟨-, hf⟩ | ⟨-, hf⟩
    · exact xt_Gp_fl h hf (Or.inl ⟨rfl, xt_paint_ok (V := xt_vv) h.2.1 (xt_FT_r hft hr)⟩)
    · exact xt_Gp_fl h hf (Or.inr ⟨rfl, xt_paint_ok (V := fun x => x = nI 0 ∨ x = nI 1) h.2.2 (Or.inr rfl)⟩)
    · exact xt_Gp_fl h hf (Or.inr ⟨rfl, xt_paint_ok (V := fun x => x = nI 0 ∨ x = nI 1) h.2.2 (Or.inl rfl)⟩)
theorem xt_chn_G {a : Nat → Int32} {n c r : Nat} {st : Nat → Nat} {o : Nat → Int32} {sd lv bo : Nat} (h : xt_Gp o c r sd lv bo) : ∀ m W, (∀ j, j < m → xt_why a n (st j) c r = -1 ∧ xt_FT a n (st j)) → xt_chn a n c st o m W → ∃ sd lv bo, xt_Gp W c r sd lv bo := by
  intro m
  induction m with
  | zero => intro W _ hW; exact ⟨sd, lv, bo, (show W = o from hW) ▸ h⟩
  | succ m ih =>
    intro W hj hW
    obtain ⟨W1, h1, h2⟩ := hW
    obtain ⟨s1, l1, b1, g1⟩ := ih W1 (fun j hj9 => hj j (by omega)) h1
    exact xt_apm_G g1 h2 (hj m (by omega)).1 (hj m (by omega)).2
theorem xt_chn_t {a : Nat → Int32} {n c : Nat} {st st' : Nat → Nat} {o : Nat → Int32} : ∀ m W, (∀ j, j < m → st j = st' j) → xt_chn a n c st o m W → xt_chn a n c st' o m W := by
  intro m
  induction m with
  | zero => exact fun W _ h => h
  | succ m ih =>
    intro W hj hW
    obtain ⟨W1, h1, h2⟩ := hW
    exact ⟨W1, ih W1 (fun j hj9 => hj j (by omega)) h1, by rw [← hj m (by omega)]; exact h2⟩
theorem xt_keep_c {U : xt_St} {v : Int32} {nx kp : Nat} (hx : nx < 8) : xt_keep (xt_sN U 46 1 v) nx kp = xt_sN (xt_keep U nx kp) 46 1 v := by
  refine Prod.ext (funext fun i => funext fun f => ?_) rfl
  by_cases e46 : i = 46
  · subst e46
    have e1 : ¬ 46 = 9 + 3 * nx := by omega
    simp [xt_keep, xt_sN, xt_cp, e1]
  · simp [xt_keep, xt_sN, xt_cp, e46]
variable {E : xt_Ev} {l : Launch} {S : xt_St} {A : xt_As} {c r sd lv bo nx : Nat}
/-- the class's cells of the text at work -/
theorem xt_48_cf {q : Nat → Int32} {k : Nat} : ∀ i f, i ≠ 46 → (xt_sN (xt_sA S 48 q) 46 3 (nI k)).1 i f = S.1 i f := fun i f h => by simp [xt_sN, xt_sA, h]
theorem xt_e5_pk {T : xt_St} : xt_pkp T 1 = xt_pk T := rfl
abbrev xt_clr (A : xt_As) : xt_As := (xt_mk9 A.pic A.hist A.snap (0) A.inp A.fault A.ref A.plan)
/-- the text's cells do not count once it is empty -/
theorem xt_CR_txt {T : xt_St} (h : xt_CR S A) (h1 : ∀ i f, i < 49 → i ≠ 33 → (i ≠ 46 ∨ f = 0 ∨ 4 ≤ f) → T.1 i f = S.1 i f) (h2 : ∀ i, i < 49 → (i < 34 ∨ 41 < i) → i ≠ 48 → T.2.1 i = S.2.1 i) (h3 : T.1 46 1 = nI 0) : xt_CR T (xt_clr A) := by
  obtain ⟨a1, ⟨nx, a2, a3⟩, a4, a5, a6, a7, a8⟩ := h
  have hp : ∀ p, p ≤ 30 → xt_e5 (xt_pkp T p) (xt_pkp S p) := fun p hp => xt_pkp_of (fun f _ => h1 p f (by omega) (by omega) (by omega)) (fun j _ => by rw [h2 (p + 1) (by omega) (by omega) (by omega)]) (fun j _ => by rw [h2 (p + 2) (by omega) (by omega) (by omega)])
  refine ⟨xt_e5_tr (hp 1 (by decide)) a1, ⟨nx, ?_, fun i f hf => xt_e5_tr (hp _ xt_sl_le.2) (a3 i f hf)⟩, ?_, ⟨h3, Nat.zero_le _, fun j hj => absurd hj (Nat.not_lt_zero _)⟩, ?_, ?_, ?_⟩
  · exact ⟨by rw [h1 7 1 (by decide) (by decide) (by decide)]; exact a2.1, by rw [h1 7 2 (by decide) (by decide) (by decide)]; exact a2.2.1, a2.2.2⟩
  · show xt_Cs T A.snap
    cases hs : A.snap with
    | none => rw [hs] at a4; show T.1 0 2 = nI 0; rw [h1 0 2 (by decide) (by decide) (by decide)]; exact a4
    | some f => rw [hs] at a4; exact ⟨by rw [h1 0 2 (by decide) (by decide) (by decide)]; exact a4.1, xt_e5_tr (hp 4 (by decide)) a4.2⟩
  · show xt_Cf (T.1 0 7) A.fault
    rw [h1 0 7 (by decide) (by decide) (by decide)]; exact a6
  · show xt_Cr (-1) (T.1 0 8) (T.1 0 9) A.ref
    rw [h1 0 8 (by decide) (by decide) (by decide), h1 0 9 (by decide) (by decide) (by decide)]; exact a7
  · show xt_Cl (T.1 42 0) (T.2.1 43) A.plan
    rw [h1 42 0 (by decide) (by decide) (by decide), h2 43 (by decide) (by decide) (by decide)]; exact a8
theorem xt_CR_fault {p : Nat} {x : Int32} (h : xt_CR S A) (hx : x = nI p) (hp : p < 1000) : xt_CR (xt_sN S 0 7 x) (xt_mk9 A.pic A.hist A.snap A.n A.inp (some p) A.ref A.plan) := by
  obtain ⟨a1, ⟨nx, a2, a3⟩, a4, a5, a6, a7, a8⟩ := h
  have hp9 : ∀ q, q ≠ 0 → xt_e5 (xt_pkp (xt_sN S 0 7 x) q) (xt_pkp S q) := fun q hq => xt_pkp_of (fun f _ => by simp [xt_sN, hq]) (fun j _ => rfl) (fun j _ => rfl)
  refine ⟨xt_e5_tr (hp9 1 (by decide)) a1, ⟨nx, a2, fun i f hf => xt_e5_tr (hp9 _ (Nat.ne_of_gt (Nat.lt_of_lt_of_le (by decide : 0 < 9) xt_sl_le.1))) (a3 i f hf)⟩, ?_, a5, ⟨by rw [← hx]; simp [xt_sN], hp⟩, a7, a8⟩
  cases hs : A.snap with
  | none => rw [hs] at a4; exact a4
  | some f => rw [hs] at a4; exact ⟨a4.1, xt_e5_tr (hp9 4 (by decide)) a4.2⟩
/-- the model's text is empty -/
theorem xt_MR_txt {b : Nat} {g W : Nat → Int32} (h : xt_MR S A) : xt_MR (xt_sN (xt_RD S b g W) 49 8 (nI 0)) (xt_clr A) := by
  obtain ⟨a1, a2, a4, a5, a6, a7, a8⟩ := h
  refine ⟨a1, a2, ?_, ⟨by simp [xt_sN], Nat.zero_le _, fun j hj => absurd hj (Nat.not_lt_zero _)⟩, a6, a7, a8⟩
  show xt_Ms9 _ A.snap
  cases hs : A.snap with
  | none => rw [hs] at a4; exact a4
  | some f => rw [hs] at a4; exact a4
theorem xt_RD_cf {b : Nat} {g W : Nat → Int32} : xt_cf S (xt_RD S b g W) := ⟨fun i f hi _ => by
    have : ¬ i = 49 := by omega
    simp [xt_RD, xt_sA, xt_sN, this], fun i hi _ => by
    have e1 : ¬ i = 53 := by omega
    have e2 : ¬ i = 66 := by omega
    simp [xt_RD, xt_sA, xt_sN, e1, e2]⟩
theorem xt_49_cf {f : Nat} {x : Int32} : xt_cf S (xt_sN S 49 f x) := ⟨fun i q hi _ => by
    have : ¬ i = 49 := by omega
    simp [xt_sN, this], fun _ _ _ => rfl⟩
theorem xt_clr_GA (h : xt_GA A) : xt_GA (xt_clr A) := h
abbrev xt_W_read (E : xt_Ev) (l : Launch) (S : xt_St) : (Option Value → xt_St → Prop) → Prop := fun Q => xt_CtH E l yL_read cL_read 3 (some Jvm.ClassFile.FieldType.int) hh_L_read (7 + 1) (153 + 23) 1 6 [.ref (E.1 0), .ref (E.1 67)] S Q
abbrev xt_M_read (E : xt_Ev) (l : Launch) : xt_St → (Option Value → xt_St → Prop) → Prop := fun S Q => xt_Ct E l yX6_read cX6_read 6 (some Jvm.ClassFile.FieldType.int) 4 88 0 0 [.ref (E.1 49)] S Q
theorem st_read (hst : l.stackTraces = false) (hI : xt_Inv S) : xt_Sp (xt_W_read E l S) (xt_M_read E l) := by
  obtain ⟨A, c, r, sd, lv, bo, hA, hc, hm, hg, hP, hvr, hk, hF⟩ := xt_ctx hI
  obtain ⟨nx, hn, hh, hx8, hk8, k1, k2, hm5⟩ := xt_ctx2 hc hm hP
  obtain ⟨-, -, -, -, -, pc1, pc2, pr1, pr2, psd, -⟩ := id hP
  have hi5 := hc.2.2.2.1
  have hi6 := hm.2.2.2.1
  have h60 := hi5.2.1
  have hsg : ∀ S', xt_mf S S' → xt_sg (S'.2.1 54) A.n = xt_sg (S.2.1 47) A.n := fun S' m9 => xt_sg_c (fun j hj => by rw [m9.2 54 (by decide), hi6.2.2 j hj, hi5.2.2 j hj])
  have hR := rfl (a := xt_fl (S.2.1 47) A.n 60 0 0 (S.2.1 48))
  generalize hRd : xt_fl (S.2.1 47) A.n 60 0 0 (S.2.1 48) = R at hR
  have hRp := xt_fl_w (a := S.2.1 47) h60 60 0 0 (S.2.1 48) (fun _ => 0) (by omega) (by omega) (by omega) (fun j hj => absurd hj (Nat.not_lt_zero _))
  rw [hRd] at hRp
  have hRM : ∀ S', xt_mf S S' → (xt_fl (S'.2.1 54) A.n 60 0 0 (S.2.1 48)).1 = R.1 ∧ (xt_fl (S'.2.1 54) A.n 60 0 0 (S.2.1 48)).2.1 = R.2.1 ∧ (xt_fl (S'.2.1 54) A.n 60 0 0 (S.2.1 48)).2.2 = R.2.2 := fun S' m9 => by
    rw [xt_fl_c (hsg S' m9), hRd]
    exact ⟨rfl, rfl, rfl⟩
  have hmn : ∀ S', xt_mf S S' → S'.1 49 8 = nI A.n := fun S' m9 => (m9.1 8 (by decide) (by decide) (by decide) (by decide)).trans hi6.1
  have hwh : ∀ S', xt_mf S S' → ∀ b, xt_why (S'.2.1 54) A.n b c r = xt_why (S.2.1 47) A.n b c r := fun S' m9 b => xt_why_c (hsg S' m9)
  rcases hRp with ⟨p, hp1, hp⟩ | ⟨hR1, hR20, st, hst9⟩
  · refine xt_Sp_gk (S := S) (A' := (xt_mk9 (xt_clr A).pic (xt_clr A).hist (xt_clr A).snap (xt_clr A).n (xt_clr A).inp (some p) (xt_clr A).ref (xt_clr A).plan)) (b := nI 0) (S1 := fun T => T = xt_sN (xt_sN (xt_sN (xt_sA S 48 R.2.2) 46 3 (nI R.2.1)) 46 1 (nI 0)) 0 7 R.1) 1 (by decide) hA (wr_read (ct_read (Q := fun _ _ => False) (QX := xt_Ex "java/lang/IllegalArgumentException" (xt_sN (xt_sN (xt_sN (xt_sA S 48 R.2.2) 46 3 (nI R.2.1)) 46 1 (nI 0)) 0 7 R.1)) hst hP hh hi5.1 h60 hRd (fun _ => ⟨rfl, rfl⟩) (fun _ _ h _ _ _ _ => ?_) (fun _ _ h _ _ _ _ => ?_)) (fun _ _ h9 => h9.elim) (fun X S9 h9 => by obtain ⟨rfl, rfl⟩ := h9; exact Or.inl ⟨rfl, rfl, rfl⟩)) (fun T hT => ?_) (fun S' m9 => ?_)
    · have h0 := nI_pos' (n := p) (by omega)
      rw [← hp, h] at h0
      exact absurd h0 (by decide)
    · have h0 := nI_pos' (n := p) (by omega)
      rw [← hp, h] at h0
      exact absurd h0 (by decide)
    · subst hT
      refine ⟨⟨fun f _ _ _ _ => by simp [xt_sN, xt_sA], fun i hi => ?_⟩, xt_CR_fault (xt_CR_txt hc (fun i f _ _ h => ?_) (fun i _ _ h => ?_) (by simp [xt_sN])) hp hp1⟩
      · have e : ¬ i = 48 := by omega
        simp [xt_sN, xt_sA, e]
      · have e1 : ¬ (i = 46 ∧ f = 1) := by omega
        have e3 : ¬ (i = 46 ∧ f = 3) := by omega
        simp [xt_sN, xt_sA, e1, e3]
      · simp [xt_sN, xt_sA, h]
    · obtain ⟨f1, f2, f3⟩ := hF S' m9
      obtain ⟨r1, r2, r3⟩ := hRM S' m9
      refine ⟨fun T => ∃ b g W, nI b = R.1 ∧ T = xt_sN (xt_sN (xt_sN (xt_RD S' b g W) 49 10 (nI b)) 49 8 (nI 0)) 49 0 (nI 1), ct_mread (R := xt_fl (S'.2.1 54) A.n 60 0 0 (S.2.1 48)) (q0 := S.2.1 48) (Q := xt_Ep (some (.int (nI 0))) (fun T => ∃ b g W, nI b = R.1 ∧ T = xt_sN (xt_sN (xt_sN (xt_RD S' b g W) 49 10 (nI b)) 49 8 (nI 0)) 49 0 (nI 1))) f1 (hmn S' m9) h60 (hm5 S' m9).1 hk8 rfl (fun b g W h _ => ⟨rfl, b, g, W, by rw [← h, r1], rfl⟩) (fun _ _ _ _ _ _ h _ _ _ _ _ _ => ?_) (fun _ _ _ _ _ _ h _ _ _ _ _ => ?_), fun S9 h9 => ?_⟩
      · have h0 := nI_pos' (n := p) (by omega)
        rw [← hp, ← r1, h] at h0
        exact absurd h0 (by decide)
      · have h0 := nI_pos' (n := p) (by omega)
        rw [← hp, ← r1, h] at h0
        exact absurd h0 (by decide)
      · obtain ⟨b, g, W, hb, rfl⟩ := h9
        have m2 := xt_MR_of m9 hm
        refine ⟨xt_cf_tr (xt_cf_tr (xt_cf_tr xt_RD_cf xt_49_cf) xt_49_cf) xt_49_cf, by simp [xt_sN], ?_⟩
        obtain ⟨a1, a2, a4, a5, a6, a7, a8⟩ := m2
        refine ⟨a1, a2, ?_, ⟨by simp [xt_sN], Nat.zero_le _, fun j hj => absurd hj (Nat.not_lt_zero _)⟩, ⟨by rw [← hp, ← hb]; simp [xt_sN], hp1⟩, a7, a8⟩
        show xt_Ms9 _ A.snap
        cases hs : A.snap with
        | none => rw [hs] at a4; exact a4
        | some f => rw [hs] at a4; exact a4
  · have hnn : ¬ ¬ R.1 < 0 := by rw [hR1]; decide
    have hsE : ∀ st2 : Nat → Nat, (∀ j, j < R.2.1 → R.2.2 j = nI (st2 j) ∧ st2 j < 1000) → ∀ j, j < R.2.1 → st2 j = st j := fun st2 h2 j hj => by
      have e1 := (h2 j hj).1
      rw [(hst9 j hj).1] at e1
      have b1 := (hst9 j hj).2.1
      have b2 := (h2 j hj).2
      exact ((nI_eq (by omega) (by omega)).mp e1).symm
    by_cases hall : ∀ j, j < R.2.1 → xt_why (S.2.1 47) A.n (st j) c r = -1
    · refine ⟨0, fun S' => ∃ T1, (∃ T, xt_crd (xt_keep (xt_sN (xt_sA S 48 R.2.2) 46 3 (nI R.2.1)) nx A.hist.length) T ∧ xt_chn (S.2.1 47) A.n c st (xt_pk (xt_keep (xt_sN (xt_sA S 48 R.2.2) 46 3 (nI R.2.1)) nx A.hist.length)) R.2.1 (xt_pk T) ∧ T1 = xt_sN T 46 1 (nI 0)) ∧ S' = xt_o1 T1 (nI R.2.1), by decide, wr_read (ct_read (Q := xt_Ep (some (.int (nI R.2.1))) (fun T1 => ∃ T, xt_crd (xt_keep (xt_sN (xt_sA S 48 R.2.2) 46 3 (nI R.2.1)) nx A.hist.length) T ∧ xt_chn (S.2.1 47) A.n c st (xt_pk (xt_keep (xt_sN (xt_sA S 48 R.2.2) 46 3 (nI R.2.1)) nx A.hist.length)) R.2.1 (xt_pk T) ∧ T1 = xt_sN T 46 1 (nI 0))) (QX := fun _ _ => False) hst hP hh hi5.1 h60 hRd (fun h => absurd h hnn) (fun st2 i3 _ h2 h3 h4 _ => ?_) (fun st2 T _ h2 _ h4 h5 => ⟨rfl, T, h4, xt_chn_t _ _ (hsE st2 h2) h5, rfl⟩)) (fun v S9 h9 => ⟨_, h9.1, rfl, _, h9.2, rfl⟩) (fun _ _ h9 => h9.elim), fun S' h => ?_⟩
      · rw [hsE st2 h2 i3 h3, hall i3 h3] at h4
        exact absurd (by decide) h4
      · obtain ⟨_, ⟨T, hcr, hch, rfl⟩, rfl⟩ := h
        have hK : ∀ i f, i ≠ 9 + 3 * nx → i ≠ 7 → i ≠ 46 → (xt_keep (xt_sN (xt_sA S 48 R.2.2) 46 3 (nI R.2.1)) nx A.hist.length).1 i f = S.1 i f := fun i f h1 h7 h46 => by
          rw [xt_kpo_1 h1 h7]; simp [xt_sN, xt_sA, h46]
        have hK2 : ∀ i, i ≠ 10 + 3 * nx → i ≠ 11 + 3 * nx → i ≠ 48 → (xt_keep (xt_sN (xt_sA S 48 R.2.2) 46 3 (nI R.2.1)) nx A.hist.length).2.1 i = S.2.1 i := fun i h1 h2 h48 => by
          rw [xt_kpo_2 h1 h2]; simp [xt_sN, xt_sA, h48]
        have m1 : xt_mf S (xt_o1 (xt_sN T 46 1 (nI 0)) (nI R.2.1)) := by
          refine ⟨fun f _ _ _ _ => ?_, fun i hi => ?_⟩
          · show (xt_sN T 46 1 (nI 0)).1 49 f = _
            have e : (xt_sN T 46 1 (nI 0)).1 49 f = T.1 49 f := by simp [xt_sN]
            rw [e, hcr.1 49 f (by omega), hK 49 f (by omega) (by decide) (by decide)]
          · show T.2.1 i = _
            rw [hcr.2.1 i (by omega) (by omega), hK2 i (by omega) (by omega) (by omega)]
        have c0 : xt_CR (xt_sN (xt_sN (xt_sA S 48 R.2.2) 46 3 (nI R.2.1)) 46 1 (nI 0)) (xt_clr A) := by
          refine xt_CR_txt hc (fun i f _ _ h => ?_) (fun i _ _ h => ?_) (by simp [xt_sN])
          · have e1 : ¬ (i = 46 ∧ f = 1) := by omega
            have e3 : ¬ (i = 46 ∧ f = 3) := by omega
            simp [xt_sN, xt_sA, e1, e3]
          · simp [xt_sN, xt_sA, h]
        have hn0 : xt_CH (xt_sN (xt_sN (xt_sA S 48 R.2.2) 46 3 (nI R.2.1)) 46 1 (nI 0)) A.hist nx := by
          obtain ⟨⟨b1, b2, b3, b4⟩, b5⟩ := hn
          have hp : ∀ p, p ≤ 30 → xt_e5 (xt_pkp (xt_sN (xt_sN (xt_sA S 48 R.2.2) 46 3 (nI R.2.1)) 46 1 (nI 0)) p) (xt_pkp S p) := fun p hp => xt_pkp_of (fun f _ => by
              have e : ¬ p = 46 := by omega
              simp [xt_sN, xt_sA, e]) (fun j _ => by
              have e : ¬ p = 47 := by omega
              simp [xt_sN, xt_sA, e]) (fun j _ => by
              have e : ¬ p = 46 := by omega
              simp [xt_sN, xt_sA, e])
          exact ⟨⟨by simp [xt_sN, xt_sA]; exact b1, by simp [xt_sN, xt_sA]; exact b2, b3, b4⟩, fun i f hf => xt_e5_tr (hp _ xt_sl_le.2) (b5 i f hf)⟩
        have c1 : xt_CR (xt_sN T 46 1 (nI 0)) (xt_mk9 (xt_pkp (xt_sN T 46 1 (nI 0)) 1) (xt_psh A.hist A.pic) (xt_clr A).snap (xt_clr A).n (xt_clr A).inp (xt_clr A).fault (xt_clr A).ref (xt_clr A).plan) := by
          have ck := xt_CR_keep c0 hn0
          have hlen : (xt_clr A).hist.length = A.hist.length := rfl
          rw [hlen, xt_keep_c hx8] at ck
          refine xt_CR_pic ck (fun i f _ _ h1 => ?_) (fun i _ _ h2 h3 => ?_) xt_e5_rf
          · show (if i = 46 ∧ f = 1 then nI 0 else T.1 i f) = (if i = 46 ∧ f = 1 then nI 0 else (xt_keep (xt_sN (xt_sA S 48 R.2.2) 46 3 (nI R.2.1)) nx A.hist.length).1 i f)
            rw [hcr.1 i f (by omega)]
          · show T.2.1 i = _
            rw [hcr.2.1 i h2 h3]
            rfl
        have hpe : xt_e5 (xt_pk (xt_keep (xt_sN (xt_sA S 48 R.2.2) 46 3 (nI R.2.1)) nx A.hist.length)) A.pic := by
          refine xt_e5_tr (xt_pkp_of (S := S) (p := 1) (q := 1) (fun f _ => hK 1 f (by omega) (by decide) (by decide)) (fun j _ => by rw [hK2 2 (by omega) (by omega) (by decide)]) (fun j _ => by rw [hK2 3 (by omega) (by omega) (by decide)])) hc.1
        obtain ⟨sd3, lv3, bo3, hg3⟩ := xt_chn_G (a := S.2.1 47) (n := A.n) (st := st) (r := r) (xt_Gp_e5 hg hpe) R.2.1 _ (fun j hj => ⟨hall j hj, (hst9 j hj).2.2⟩) hch
        have hpT : xt_pkp (xt_sN T 46 1 (nI 0)) 1 = xt_pk T := by
          funext i
          show (if i < 5 then (xt_sN T 46 1 (nI 0)).1 1 i else _) = (if i < 5 then T.1 1 i else _)
          have e : (xt_sN T 46 1 (nI 0)).1 1 i = T.1 1 i := by simp [xt_sN]
          rw [e]
          rfl
        obtain ⟨f1, f2, f3⟩ := hF _ m1
        obtain ⟨r1, r2, r3⟩ := hRM _ m1
        have m2 := xt_MR_of m1 hm
        have hw9 := hwh _ m1
        generalize hSd : xt_o1 (xt_sN T 46 1 (nI 0)) (nI R.2.1) = S' at m1 f1 f2 f3 r1 r2 r3 m2 hw9 ⊢
        refine ⟨nI R.2.1, fun S9 => ∃ b g W V, xt_e5 V (xt_pk T) ∧ S9 = xt_sA (xt_chg (xt_sN (xt_RD S' b g W) 49 8 (nI 0)) A.hist.length) 50 V, ct_mread (R := xt_fl (S'.2.1 54) A.n 60 0 0 (S.2.1 48)) (q0 := S.2.1 48) (Q := xt_Ep (some (.int (nI R.2.1))) (fun S9 => ∃ b g W V, xt_e5 V (xt_pk T) ∧ S9 = xt_sA (xt_chg (xt_sN (xt_RD S' b g W) 49 8 (nI 0)) A.hist.length) 50 V)) f1 (hmn S' m1) h60 (hm5 S' m1).1 hk8 rfl (fun b g W h hb9 => ?_) (fun b g W st2 m3 i3 _ h2 h3 h4 h5 h6 _ => ?_) (fun b g W st2 o V _ h2 _ h4 h5 h6 => ?_), fun S9 h9 => ?_⟩
        · rw [r1, hR1] at h
          have h0 := nI_pos' (n := b) (by omega)
          rw [← h] at h0
          exact absurd h0 (by decide)
        · rw [r2, r3] at h2
          rw [r2] at h5
          rw [hw9, hsE st2 h2 i3 h5, hall i3 h5] at h6
          have h0 := nI_pos' (n := m3) (by omega)
          rw [← h6] at h0
          exact absurd h0 (by decide)
        · rw [r2, r3] at h2
          rw [r2] at h5 ⊢
          refine ⟨rfl, b, g, W, V, fun j hj => ?_, rfl⟩
          rw [h6 j hj]
          have hoo : ∀ i, i < 517 → o i = xt_pk (xt_keep (xt_sN (xt_sA S 48 R.2.2) 46 3 (nI R.2.1)) nx A.hist.length) i := fun i hi => by
            rw [h4 i hi, m2.1 i hi, hpe i hi]
          exact xt_chn_s pc2 hoo R.2.1 W (xt_pk T) (hsE st2 h2) (xt_chn_a (hsg S' m1) _ _ h5) hch j hj
        · obtain ⟨b, g, W, V, hV, rfl⟩ := h9
          refine ⟨?_, fun _ => ?_, (xt_mk9 (xt_pkp (xt_sN T 46 1 (nI 0)) 1) (xt_psh A.hist A.pic) (xt_clr A).snap (xt_clr A).n (xt_clr A).inp (xt_clr A).fault (xt_clr A).ref (xt_clr A).plan), ⟨?_, fun f hf => ?_, hA.2.2⟩, ?_, ?_⟩
          · show (xt_chg (xt_sN (xt_RD S' b g W) 49 8 (nI 0)) A.hist.length).1 49 0 = nI 0
            rw [xt_chg_f (by decide)]; simp [xt_RD, xt_sN, xt_sA]
          · subst hSd; exact xt_o1_v
          · rw [hpT]; exact ⟨c, r, sd3, lv3, bo3, hg3⟩
          · rcases xt_psh_mem hf with h9 | rfl
            · exact hA.2.1 f h9
            · exact hA.1
          · subst hSd
            exact xt_CR_of (xt_cf_tr (xt_cf_tr (xt_cf_tr (xt_cf_tr xt_o1_cf xt_RD_cf) xt_49_cf) xt_chg_cf) xt_50_cf) c1
          · rw [hpT]
            exact xt_MR_pic (xt_MR_chg (xt_MR_txt m2)) hV
    · have hex : ∃ i, i < R.2.1 ∧ xt_why (S.2.1 47) A.n (st i) c r ≠ -1 := by
        apply Classical.byContradiction
        intro h9
        exact hall (fun j hj => Classical.byContradiction (fun h8 => h9 ⟨j, hj, h8⟩))
      obtain ⟨i0, ⟨hi0, hne⟩, hmin⟩ := xt_least9 hex
      have hbe : ∀ j, j < i0 → xt_why (S.2.1 47) A.n (st j) c r = -1 := fun j hj => Classical.byContradiction (fun h8 => hmin j hj ⟨by omega, h8⟩)
      obtain ⟨m, hm1, hm3, hwm⟩ : ∃ m, 1 ≤ m ∧ m ≤ 3 ∧ xt_why (S.2.1 47) A.n (st i0) c r = nI m := by
        rcases xt_why_v (a := S.2.1 47) (n := A.n) (b := st i0) (c := c) (r := r) with h | h
        · exact absurd h hne
        · exact h
      have hnm : nI m ≠ -1 := fun h => by rw [← hwm] at h; exact hne h
      have hi3 : ∀ i3, i3 < R.2.1 → xt_why (S.2.1 47) A.n (st i3) c r ≠ -1 → (∀ j, j < i3 → xt_why (S.2.1 47) A.n (st j) c r = -1) → i3 = i0 := fun i3 h1 h2 h3 => by
        rcases Nat.lt_trichotomy i3 i0 with h | h | h
        · exact absurd (hbe i3 h) h2
        · exact h
        · exact absurd (h3 i0 h) hne
      refine xt_Sp_gk (S := S) (A' := (xt_mk9 (xt_clr A).pic (xt_clr A).hist (xt_clr A).snap (xt_clr A).n (xt_clr A).inp (xt_clr A).fault (some (m, nI i0)) (xt_clr A).plan)) (b := nI 0) (S1 := fun T => T = xt_sN (xt_sN (xt_sN (xt_sN (xt_sA S 48 R.2.2) 46 3 (nI R.2.1)) 46 1 (nI 0)) 0 8 (nI m)) 0 9 (nI i0)) 2 (by decide) hA (wr_read (ct_read (Q := fun _ _ => False) (QX := xt_Ex "java/lang/UnsupportedOperationException" (xt_sN (xt_sN (xt_sN (xt_sN (xt_sA S 48 R.2.2) 46 3 (nI R.2.1)) 46 1 (nI 0)) 0 8 (nI m)) 0 9 (nI i0))) hst hP hh hi5.1 h60 hRd (fun h => absurd h hnn) (fun st2 i3 _ h2 h3 h4 h5 => ?_) (fun st2 T _ h2 h3 _ _ => ?_)) (fun _ _ h9 => h9.elim) (fun X S9 h9 => by obtain ⟨rfl, rfl⟩ := h9; exact Or.inr ⟨rfl, rfl, rfl⟩)) (fun T hT => ?_) (fun S' m9 => ?_)
      · have e : i3 = i0 := hi3 i3 h3 (by rw [← hsE st2 h2 i3 h3]; exact fun h => h4 (by rw [h]; decide)) (fun j hj => by rw [← hsE st2 h2 j (by omega)]; exact h5 j hj)
        subst e
        rw [hsE st2 h2 i3 h3, hwm]
        exact ⟨rfl, rfl⟩
      · exact absurd (by rw [← hsE st2 h2 i0 hi0]; exact h3 i0 hi0) hne
      · subst hT
        refine ⟨⟨fun f _ _ _ _ => by simp [xt_sN, xt_sA], fun i hi => ?_⟩, xt_CR_ref (xt_CR_txt hc (fun i f _ _ h => ?_) (fun i _ _ h => ?_) (by simp [xt_sN])) rfl ⟨by omega, by omega⟩⟩
        · have e : ¬ i = 48 := by omega
          simp [xt_sN, xt_sA, e]
        · have e1 : ¬ (i = 46 ∧ f = 1) := by omega
          have e3 : ¬ (i = 46 ∧ f = 3) := by omega
          simp [xt_sN, xt_sA, e1, e3]
        · simp [xt_sN, xt_sA, h]
      · obtain ⟨f1, f2, f3⟩ := hF S' m9
        obtain ⟨r1, r2, r3⟩ := hRM S' m9
        have hw9 := hwh S' m9
        refine ⟨fun T => ∃ b g W, T = xt_sN (xt_sN (xt_sN (xt_sN (xt_RD S' b g W) 49 8 (nI 0)) 49 11 (nI m)) 49 12 (nI i0)) 49 0 (nI 2), ct_mread (R := xt_fl (S'.2.1 54) A.n 60 0 0 (S.2.1 48)) (q0 := S.2.1 48) (Q := xt_Ep (some (.int (nI 0))) (fun T => ∃ b g W, T = xt_sN (xt_sN (xt_sN (xt_sN (xt_RD S' b g W) 49 8 (nI 0)) 49 11 (nI m)) 49 12 (nI i0)) 49 0 (nI 2))) f1 (hmn S' m9) h60 (hm5 S' m9).1 hk8 rfl (fun b g W h hb9 => ?_) (fun b g W st2 m2 i3 h1 h2 h3 h4 h5 h6 h7 => ?_) (fun b g W st2 o V h1 h2 h3 _ _ _ => ?_), fun S9 h9 => ?_⟩
        · rw [r1, hR1] at h
          have h0 := nI_pos' (n := b) (by omega)
          rw [← h] at h0
          exact absurd h0 (by decide)
        · rw [r2, r3] at h2
          rw [r2] at h5
          rw [hw9, hsE st2 h2 i3 h5] at h6
          have e : i3 = i0 := hi3 i3 h5 (by rw [h6]; intro h; rcases (by omega : m2 = 1 ∨ m2 = 2 ∨ m2 = 3) with rfl | rfl | rfl <;> exact absurd h (by decide)) (fun j hj => by rw [← hsE st2 h2 j (by omega), ← hw9]; exact h7 j hj)
          subst e
          have em : m2 = m := (nI_eq (by omega) (by omega)).mp (h6.symm.trans hwm)
          subst em
          refine ⟨rfl, b, g, W, ?_⟩
          rcases (by omega : m2 = 1 ∨ m2 = 2 ∨ m2 = 3) with rfl | rfl | rfl <;> rfl
        · rw [r2, r3] at h2
          rw [r2] at h3
          exact absurd (by rw [← hsE st2 h2 i0 hi0, ← hw9]; exact h3 i0 hi0) hne
        · obtain ⟨b, g, W, rfl⟩ := h9
          refine ⟨xt_cf_tr (xt_cf_tr (xt_cf_tr (xt_cf_tr xt_RD_cf xt_49_cf) xt_49_cf) xt_49_cf) xt_49_cf, by simp [xt_sN], xt_MR_ref (xt_MR_txt (xt_MR_of m9 hm)) rfl ⟨by omega, by omega⟩⟩
end XL6
