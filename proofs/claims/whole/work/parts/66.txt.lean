/-! texts: what stands in them below their end; what reading them gives; painting is the same on the same values -/
section XM24
theorem xt_sg_c {a a' : Nat → Int32} {n : Nat} (h : ∀ j, j < n → a j = a' j) : xt_sg a n = xt_sg a' n := funext fun j => by
  by_cases z : j < n
  · rw [xt_sg1 z, xt_sg1 z, h j z]
  · rw [xt_sg0 (by omega), xt_sg0 (by omega)]
theorem xt_fe_c {a a' : Nat → Int32} {n : Nat} (h : xt_sg a n = xt_sg a' n) : xt_fe a n = xt_fe a' n := funext fun i => funext fun b => by
  unfold xt_fe
  rw [h]
theorem xt_fl_c {a a' : Nat → Int32} {n : Nat} (h : xt_sg a n = xt_sg a' n) : ∀ f it b q, xt_fl a n f it b q = xt_fl a' n f it b q := by
  intro f
  induction f with
  | zero => intro it b q; rfl
  | succ f ih =>
    intro it b q
    rw [xt_fl, xt_fl, xt_fe_c h, h, ih]
theorem xt_why_c {a a' : Nat → Int32} {n : Nat} (h : xt_sg a n = xt_sg a' n) {b c r : Nat} : xt_why a n b c r = xt_why a' n b c r := by
  unfold xt_why
  rw [h]
theorem xt_apm_c {a a' : Nat → Int32} {n : Nat} (h : xt_sg a n = xt_sg a' n) {b c : Nat} {o W : Nat → Int32} (hp : xt_apm a n b c o W) : xt_apm a' n b c o W := by
  unfold xt_apm at hp ⊢
  rw [← h]
  exact hp
theorem xt_chn_a {a a' : Nat → Int32} {n : Nat} (h : xt_sg a n = xt_sg a' n) {c : Nat} {st : Nat → Nat} {o : Nat → Int32} : ∀ m W, xt_chn a n c st o m W → xt_chn a' n c st o m W := by
  intro m
  induction m with
  | zero => exact fun W h => h
  | succ m ih =>
    intro W hW
    obtain ⟨W1, h1, h2⟩ := hW
    exact ⟨W1, ih W1 h1, xt_apm_c h h2⟩
theorem xt_fl_p {a : Nat → Int32} {n : Nat} (h60 : n ≤ 60) : ∀ f it b q (st : Nat → Nat), f + it = 60 → 3 * it ≤ b → b ≤ n → (∀ j, j < it → q j = nI (st j) ∧ st j < n ∧ ¬ xt_fo (xt_sg a n (st j)) = 24) → (∃ p, p < 1000 ∧ (xt_fl a n f it b q).1 = nI p) ∨ ((xt_fl a n f it b q).1 = -1 ∧ (xt_fl a n f it b q).2.1 ≤ 20 ∧ ∃ st' : Nat → Nat, ∀ j, j < (xt_fl a n f it b q).2.1 → (xt_fl a n f it b q).2.2 j = nI (st' j) ∧ st' j < n ∧ ¬ xt_fo (xt_sg a n (st' j)) = 24) := by
  intro f
  induction f with
  | zero => intro it b q st h1 h2 h3; omega
  | succ f ih =>
    intro it b q st h1 h2 h3 hst
    rw [xt_fl]
    by_cases hfo : xt_fo (xt_sg a n b) = 24
    · rw [if_pos hfo]
      exact Or.inl ⟨b, by omega, rfl⟩
    · rw [if_neg hfo]
      have hb24 := xt_fo_b (x := xt_sg a n b)
      have htl := xt_tl1 hb24.1 (by omega)
      have hle9 : xt_fe a n (xt_fo (xt_sg a n b)) (b + 1) ≤ xt_tl.getD (xt_fo (xt_sg a n b)) 0 := xt_pre_le
      have hbl : b < n := Nat.lt_of_not_le (fun z => hfo (by rw [xt_sg0 z]; decide +kernel))
      have hnew : ∀ j, j < it + 1 → xt_nq q it b j = nI (xt_nst st it b j) ∧ xt_nst st it b j < n ∧ ¬ xt_fo (xt_sg a n (xt_nst st it b j)) = 24 := by
        intro j hj
        refine ⟨xt_nq_s (by omega) (fun j hj => (hst j hj).1) j hj, ?_⟩
        by_cases e : j = it
        · rw [e, xt_nst_s]; exact ⟨hbl, hfo⟩
        · rw [xt_nst_n (by omega)]; exact (hst j (by omega)).2
      by_cases hlt9 : xt_fe a n (xt_fo (xt_sg a n b)) (b + 1) < xt_tl.getD (xt_fo (xt_sg a n b)) 0
      · rw [if_pos hlt9]
        exact Or.inl ⟨_, by omega, rfl⟩
      · rw [if_neg hlt9]
        by_cases hend : n ≤ b + 1 + xt_fe a n (xt_fo (xt_sg a n b)) (b + 1)
        · rw [if_pos hend]
          exact Or.inr ⟨rfl, by show it + 1 ≤ 20; omega, _, hnew⟩
        · rw [if_neg hend]
          by_cases h59 : xt_sg a n (b + 1 + xt_fe a n (xt_fo (xt_sg a n b)) (b + 1)) ≠ nI 59
          · rw [if_pos h59]
            exact Or.inl ⟨_, by omega, rfl⟩
          · rw [if_neg h59]
            exact ih (it + 1) _ _ (xt_nst st it b) (by omega) (by omega) (by omega) hnew
theorem xt_it_r {α : Type} {P : α → α → Prop} {f g : Nat → α → α} : ∀ n, (∀ i, i < n → ∀ s t, P s t → P (f i s) (g i t)) → ∀ s t, P s t → P (xt_it f n s) (xt_it g n t) := by
  intro n
  induction n with
  | zero => exact fun _ s t h => h
  | succ n ih =>
    intro h s t h0
    exact h n (by omega) _ _ (ih (fun i hi => h i (by omega)) s t h0)
def xt_pq (q q' : (Nat → Int32) × Int32) : Prop := (∀ j, j < 256 → q.1 j = q'.1 j) ∧ q.2 = q'.2
theorem xt_pq_s {v : Int32} {p : Nat} (hp : p < 256) {q q' : (Nat → Int32) × Int32} (h : xt_pq q q') : xt_pq (xt_ps v p q) (xt_ps v p q') := by
  have e := h.1 p hp
  have u : ∀ j, j < 256 → upd q.1 p v j = upd q'.1 p v j := fun j hj => by
    by_cases z : j = p
    · rw [z, xt_up_s, xt_up_s]
    · rw [xt_up_n z, xt_up_n z]; exact h.1 j hj
  by_cases z : q.1 p = v
  · rw [xt_ps_t z, xt_ps_t (e ▸ z)]
    exact ⟨u, h.2⟩
  · rw [xt_ps_f z, xt_ps_f (fun y => z (e.trans y))]
    exact ⟨u, by show q.2 + 1 = q'.2 + 1; rw [h.2]⟩
theorem xt_paint_c {c r lf tp w h : Nat} {v : Int32} {f f' : Nat → Int32} (hc : c ≤ 16) (hr : r ≤ 16) (hw : lf + w ≤ c) (hh : tp + h ≤ r) (e : ∀ j, j < 256 → f j = f' j) : xt_pq (xt_paint c lf tp w h v f) (xt_paint c lf tp w h v f') := by
  unfold xt_paint
  exact xt_it_r (P := xt_pq) h (fun y hy s t hst => xt_it_r (P := xt_pq) w (fun x hx s t hst => xt_pq_s (xt_ix (c := c) (r := r) (x := lf + x) (y := tp + y) (by omega) (by omega) hc hr).1 hst) s t hst) _ _ ⟨e, rfl⟩
end XM24
