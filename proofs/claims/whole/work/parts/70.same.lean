/-! two readings of one text: the same values give the same values -/
section XC38
theorem xt_fl9_e {part : Nat} {W W' P P' o o' : Nat → Int32} (hp : part = 5 ∨ part = 261) (h : xt_fl9 part W P o) (h' : xt_fl9 part W' P' o') (hP : ∀ j, j < 256 → P j = P' j) (ho : ∀ i, i < 517 → o i = o' i) : ∀ i, i < 517 → W i = W' i := by
  intro i hi
  by_cases z : part ≤ i ∧ i < part + 256
  · have e : i = part + (i - part) := by omega
    rw [e, h.1 _ (by omega), h'.1 _ (by omega)]
    exact hP _ (by omega)
  · rw [h.2 i (by omega), h'.2 i (by omega)]
    exact ho i hi
theorem xt_apm_s {a : Nat → Int32} {n b c : Nat} {o o' W W' : Nat → Int32} (hc : c ≤ 16) (h : xt_apm a n b c o W) (h' : xt_apm a n b c o' W') (ho : ∀ i, i < 517 → o i = o' i) : ∀ i, i < 517 → W i = W' i := by
  rcases h with ⟨j, hj, hs, rfl⟩ | ⟨hs, lf, tp, w, g, q1, q2, q3, q4, e1, e2, e3, e4, hb⟩
  · rcases h' with ⟨j', hj', hs', rfl⟩ | ⟨hs', _⟩
    · have e : j = j' := (nI_eq (by omega) (by omega)).mp (hs.symm.trans hs')
      subst e
      intro i hi
      by_cases z : i = 2 + j
      · rw [z, xt_up_s, xt_up_s]
      · rw [xt_up_n z, xt_up_n z]; exact ho i hi
    · rw [hs] at hs'
      exact absurd hs' (nI_pos (by omega))
  · rcases h' with ⟨j', hj', hs', _⟩ | ⟨_, lf', tp', w', g', q1', q2', q3', q4', e1', e2', e3', e4', hb'⟩
    · rw [hs'] at hs
      exact absurd hs (nI_pos (by omega))
    · have a1 : lf = lf' := (nI_eq (by omega) (by omega)).mp (e1.symm.trans e1')
      have a2 : tp = tp' := (nI_eq (by omega) (by omega)).mp (e2.symm.trans e2')
      have a3 : lf + w - 1 = lf' + w' - 1 := (nI_eq (by omega) (by omega)).mp (e3.symm.trans e3')
      have a4 : tp + g - 1 = tp' + g' - 1 := (nI_eq (by omega) (by omega)).mp (e4.symm.trans e4')
      have a5 : w = w' := by omega
      have a6 : g = g' := by omega
      subst a1 a2 a5 a6
      have n1 : ¬ nI 114 = nI 109 := by decide
      have n2 : ¬ nI 114 = nI 117 := by decide
      have n3 : ¬ nI 109 = nI 117 := by decide
      rcases hb with ⟨k1, k2⟩ | ⟨k1, k2⟩ | ⟨k1, k2⟩ <;> rcases hb' with ⟨k1', k2'⟩ | ⟨k1', k2'⟩ | ⟨k1', k2'⟩
      · exact xt_fl9_e (Or.inl rfl) k2 k2' (xt_paint_c hc (Nat.le_refl 16) q1 q2 (fun j hj => ho _ (by omega))).1 ho
      · exact absurd (k1.symm.trans k1') n1
      · exact absurd (k1.symm.trans k1') n2
      · exact absurd (k1'.symm.trans k1) n1
      · exact xt_fl9_e (Or.inr rfl) k2 k2' (xt_paint_c hc (Nat.le_refl 16) q1 q2 (fun j hj => ho _ (by omega))).1 ho
      · exact absurd (k1.symm.trans k1') n3
      · exact absurd (k1'.symm.trans k1) n2
      · exact absurd (k1'.symm.trans k1) n3
      · exact xt_fl9_e (Or.inr rfl) k2 k2' (xt_paint_c hc (Nat.le_refl 16) q1 q2 (fun j hj => ho _ (by omega))).1 ho
theorem xt_chn_s {a : Nat → Int32} {n c : Nat} {st st' : Nat → Nat} {o o' : Nat → Int32} (hc : c ≤ 16) (ho : ∀ i, i < 517 → o i = o' i) : ∀ m W W', (∀ j, j < m → st j = st' j) → xt_chn a n c st o m W → xt_chn a n c st' o' m W' → ∀ i, i < 517 → W i = W' i := by
  intro m
  induction m with
  | zero =>
    intro W W' _ h h'
    rw [show W = o from h, show W' = o' from h']
    exact ho
  | succ m ih =>
    intro W W' he h h'
    obtain ⟨W1, h1, h2⟩ := h
    obtain ⟨W1', h1', h2'⟩ := h'
    rw [← he m (by omega)] at h2'
    exact xt_apm_s hc h2 h2' (ih W1 W1' (fun j hj => he j (by omega)) h1 h1')
end XC38
