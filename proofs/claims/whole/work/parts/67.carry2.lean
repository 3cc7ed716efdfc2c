/-! THE TILER: an item carried out, as the text's form has it -/
section XC35
variable {E : xt_Ev} {l : Launch} {S : xt_St}
/-- the picture's numbers, packed as the model packs them -/
def xt_pk (S : xt_St) : Nat → Int32 := fun i => if i < 5 then S.1 1 i else if i < 261 then S.2.1 2 (i - 5) else S.2.1 3 (i - 261)
theorem xt_pk_a {i : Nat} (h : i < 5) : xt_pk S i = S.1 1 i := if_pos h
theorem xt_pk_b {i : Nat} (h : 5 ≤ i) (h2 : i < 261) : xt_pk S i = S.2.1 2 (i - 5) := (if_neg (by omega)).trans (if_pos h2)
theorem xt_pk_c {i : Nat} (h : 261 ≤ i) : xt_pk S i = S.2.1 3 (i - 261) := (if_neg (by omega)).trans (if_neg (by omega))
/-- nothing but the picture's settings, values and mask is changed -/
def xt_crd (S T : xt_St) : Prop := (∀ i f, (i ≠ 1 ∨ f < 2 ∨ 5 ≤ f) → T.1 i f = S.1 i f) ∧ (∀ i, i ≠ 2 → i ≠ 3 → T.2.1 i = S.2.1 i) ∧ T.2.2 = S.2.2
theorem xt_crd_rf : xt_crd S S := ⟨fun _ _ _ => rfl, fun _ _ _ => rfl, rfl⟩
theorem xt_crd_tr {T U : xt_St} (h : xt_crd S T) (h2 : xt_crd T U) : xt_crd S U := ⟨fun i f hi => (h2.1 i f hi).trans (h.1 i f hi), fun i a b => (h2.2.1 i a b).trans (h.2.1 i a b), h2.2.2.trans h.2.2⟩
theorem xt_fo_x {x : Int32} (h : ¬ xt_fo x = 24) : x = nI 98 ∨ x = nI 108 ∨ x = nI 109 ∨ x = nI 114 ∨ x = nI 116 ∨ x = nI 117 := by
  rcases xt_fo_c (x := x) with ⟨_, h9⟩ | ⟨_, h9 | h9⟩ | ⟨_, h9 | h9 | h9⟩ | ⟨h9, _⟩
  · exact Or.inr (Or.inr (Or.inr (Or.inl h9)))
  · exact Or.inr (Or.inr (Or.inl h9))
  · exact Or.inr (Or.inr (Or.inr (Or.inr (Or.inr h9))))
  · exact Or.inl h9
  · exact Or.inr (Or.inl h9)
  · exact Or.inr (Or.inr (Or.inr (Or.inr (Or.inl h9))))
  · exact absurd h9 h
theorem xt_pk_2 {c r lf tp w h : Nat} {v : Int32} (hc : c ≤ 16) (hr : r ≤ 16) (hw : lf + w ≤ c) (hh : tp + h ≤ r) : xt_fl9 5 (xt_pk (xt_sA S 2 (xt_paint c lf tp w h v (S.2.1 2)).1)) (xt_paint c lf tp w h v (fun j => xt_pk S (5 + j))).1 (xt_pk S) := by
  refine ⟨fun j hj => ?_, fun i hi => ?_⟩
  · rw [xt_pk_b (by omega) (by omega), xt_sA_s, show 5 + j - 5 = j by omega]
    exact (xt_paint_c hc hr hw hh (fun j hj => by rw [xt_pk_b (by omega) (by omega), show 5 + j - 5 = j by omega])).1 j hj
  · by_cases z : i < 5
    · rw [xt_pk_a z, xt_pk_a z]; rfl
    · rw [xt_pk_c (by omega), xt_pk_c (by omega), xt_sA_n (by decide)]
theorem xt_pk_3 {c r lf tp w h : Nat} {v : Int32} (hc : c ≤ 16) (hr : r ≤ 16) (hw : lf + w ≤ c) (hh : tp + h ≤ r) (hx : ∀ j, 256 ≤ j → (xt_paint c lf tp w h v (S.2.1 3)).1 j = S.2.1 3 j) : xt_fl9 261 (xt_pk (xt_sA S 3 (xt_paint c lf tp w h v (S.2.1 3)).1)) (xt_paint c lf tp w h v (fun j => xt_pk S (261 + j))).1 (xt_pk S) := by
  refine ⟨fun j hj => ?_, fun i hi => ?_⟩
  · rw [xt_pk_c (by omega), xt_sA_s, show 261 + j - 261 = j by omega]
    exact (xt_paint_c hc hr hw hh (fun j hj => by rw [xt_pk_c (by omega), show 261 + j - 261 = j by omega])).1 j hj
  · by_cases z : i < 5
    · rw [xt_pk_a z, xt_pk_a z]; rfl
    · by_cases z2 : i < 261
      · rw [xt_pk_b (by omega) z2, xt_pk_b (by omega) z2, xt_sA_n (by decide)]
      · rw [xt_pk_c (by omega), xt_pk_c (by omega), xt_sA_s]
        exact hx _ (by omega)
theorem xt_it_i {α : Type} : ∀ n (s : α), xt_it (fun _ q => q) n s = s := by
  intro n
  induction n with
  | zero => exact fun s => rfl
  | succ n ih => exact fun s => ih s
/-- painting leaves what lies behind the picture -/
theorem xt_paint_o {c r lf tp w h : Nat} {v : Int32} {f : Nat → Int32} (hc : c ≤ 16) (hr : r ≤ 16) (hw : lf + w ≤ c) (hh : tp + h ≤ r) : ∀ j, 256 ≤ j → (xt_paint c lf tp w h v f).1 j = f j := by
  intro j hj
  unfold xt_paint
  refine (xt_it_r (P := fun q q' : (Nat → Int32) × Int32 => q.1 j = q'.1 j) (g := fun _ q => q) h (fun y hy s t hst => xt_it_r (P := fun q q' : (Nat → Int32) × Int32 => q.1 j = q'.1 j) (f := fun x q => xt_ps v ((tp + y) * c + (lf + x)) q) (g := fun _ q => q) w (fun x hx s t hst => ?_) s t hst |>.trans ?_) (f, 0) (f, 0) rfl).trans ?_
  · have h9 := (xt_ix (c := c) (r := r) (x := lf + x) (y := tp + y) (by omega) (by omega) hc hr).1
    show upd s.1 _ v j = t.1 j
    rw [xt_up_n (by omega)]
    exact hst
  · exact congrArg (fun q : (Nat → Int32) × Int32 => q.1 j) (xt_it_i w t)
  · exact congrArg (fun q : (Nat → Int32) × Int32 => q.1 j) (xt_it_i h (f, 0))
end XC35
