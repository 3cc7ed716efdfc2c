/-! THE TILER: carryOut, one contract -/
section XC36
variable {E : xt_Ev} {l : Launch} {S : xt_St}
theorem xt_crd_N {f : Nat} {v : Int32} (hf : 2 ≤ f ∧ f < 5) : xt_crd S (xt_sN S 1 f v) := ⟨fun i g hi => xt_sN_o (by omega), fun _ _ _ => rfl, rfl⟩
theorem xt_crd_A {i : Nat} {g : Nat → Int32} (hi : i = 2 ∨ i = 3) : xt_crd S (xt_sA S i g) := ⟨fun _ _ _ => rfl, fun j a b => xt_sA_n (by omega), rfl⟩
theorem xt_pk_N {j : Nat} {v : Int32} (hj : j < 3) : xt_pk (xt_sN S 1 (2 + j) v) = upd (xt_pk S) (2 + j) v := funext fun i => by
  by_cases e : i = 2 + j
  · rw [e, xt_up_s, xt_pk_a (by omega)]
    exact xt_s2_v
  · rw [xt_up_n e]
    by_cases z : i < 5
    · rw [xt_pk_a z, xt_pk_a z]
      exact xt_sN_o (by omega)
    · by_cases z2 : i < 261
      · rw [xt_pk_b (by omega) z2, xt_pk_b (by omega) z2]; rfl
      · rw [xt_pk_c (by omega), xt_pk_c (by omega)]; rfl
theorem xt_Pic_N {c r sd lv bo j : Nat} {v : Int32} (hj : j < 3) (hP : xt_Pic S 1 c r sd lv bo) (hs : xt_set (nI j) v) : ∃ sd' lv' bo', xt_Pic (xt_sN S 1 (2 + j) v) 1 c r sd' lv' bo' := by
  obtain ⟨p0, p1, p2, p3, p4, b1, b2, b3, b4, b5, b6, b7⟩ := hP
  have hne : ∀ f, f ≠ 2 + j → (xt_sN S 1 (2 + j) v).1 1 f = S.1 1 f := fun f hf => xt_sN_o (by omega)
  have hat : (xt_sN S 1 (2 + j) v).1 1 (2 + j) = v := xt_s2_v
  rcases (by omega : j = 0 ∨ j = 1 ∨ j = 2) with rfl | rfl | rfl
  · have h9 : ∃ m, (m = 2 ∨ m = 4 ∨ m = 8) ∧ v = nI m := by
      rcases hs with ⟨_, h | h | h⟩ | ⟨h, _⟩ | ⟨h, _⟩
      · exact ⟨2, Or.inl rfl, h⟩
      · exact ⟨4, Or.inr (Or.inl rfl), h⟩
      · exact ⟨8, Or.inr (Or.inr rfl), h⟩
      · exact absurd h (by decide)
      · exact absurd h (by decide)
    obtain ⟨m, hm, rfl⟩ := h9
    exact ⟨m, lv, bo, (hne 0 (by decide)).trans p0, (hne 1 (by decide)).trans p1, hat, (hne 3 (by decide)).trans p3, (hne 4 (by decide)).trans p4, b1, b2, b3, b4, hm, b6, b7⟩
  · have h9 : ∃ m, m ≤ 3 ∧ v = nI m := by
      rcases hs with ⟨h, _⟩ | ⟨_, h⟩ | ⟨h, _⟩
      · exact absurd h (by decide)
      · exact (xt_btw (by decide)).mp h
      · exact absurd h (by decide)
    obtain ⟨m, hm, rfl⟩ := h9
    exact ⟨sd, m, bo, (hne 0 (by decide)).trans p0, (hne 1 (by decide)).trans p1, (hne 2 (by decide)).trans p2, hat, (hne 4 (by decide)).trans p4, b1, b2, b3, b4, b5, hm, b7⟩
  · have h9 : ∃ m, m ≤ 8 ∧ v = nI m := by
      rcases hs with ⟨h, _⟩ | ⟨h, _⟩ | ⟨_, h⟩
      · exact absurd h (by decide)
      · exact absurd h (by decide)
      · exact (xt_btw (by decide)).mp h
    obtain ⟨m, hm, rfl⟩ := h9
    exact ⟨sd, lv, m, (hne 0 (by decide)).trans p0, (hne 1 (by decide)).trans p1, (hne 2 (by decide)).trans p2, (hne 3 (by decide)).trans p3, hat, b1, b2, b3, b4, b5, b6, hm⟩
theorem ct_carry {c r sd lv bo : Nat} (hP : xt_Pic S 1 c r sd lv bo) {n b it : Nat} (hn9 : S.1 46 1 = nI n) (h60 : n ≤ 60) (hb9 : S.2.1 48 it = nI b) (h20 : it < 20) (hb1 : b < 1000) (hfo : ¬ xt_fo (xt_sg (S.2.1 47) n b) = 24) (hw : xt_why (S.2.1 47) n b c r = -1) : xt_Ct E l yX3_carryOut cX3_carryOut 11 none 2 52 0 0 [.ref (E.1 46), .int (nI it), .ref (E.1 1)] S (xt_Ep none (fun S9 => xt_crd S S9 ∧ (∃ sd' lv' bo', xt_Pic S9 1 c r sd' lv' bo') ∧ xt_apm (S.2.1 47) n b c (xt_pk S) (xt_pk S9))) := by
  have hx := xt_fo_x hfo
  have b2 : c ≤ 16 := hP.2.2.2.2.2.2.1
  have b4 : r ≤ 16 := hP.2.2.2.2.2.2.2.2.1
  have set : ∀ j, j < 3 → xt_so (xt_sg (S.2.1 47) n b) = nI j → xt_Ct E l yX3_carryOut cX3_carryOut 11 none 2 52 0 0 [.ref (E.1 46), .int (nI it), .ref (E.1 1)] S (xt_Ep none (fun S9 => xt_crd S S9 ∧ (∃ sd' lv' bo', xt_Pic S9 1 c r sd' lv' bo') ∧ xt_apm (S.2.1 47) n b c (xt_pk S) (xt_pk S9))) := by
    intro j hj hso
    refine xt_Ct_w (ct_carrySet hn9 h60 hb9 h20 hb1 hx hso hj) (fun v S9 h9 => ?_)
    obtain ⟨h1, rfl⟩ := h9
    have hs : xt_set (nI j) (xt_hx (xt_sg (S.2.1 47) n (b + 1))) := by
      refine Classical.byContradiction (fun z => ?_)
      unfold xt_why at hw
      rw [hso, if_neg (nI_pos (by omega)), if_neg z] at hw
      exact absurd hw (by decide)
    exact ⟨h1, xt_crd_N (by omega), xt_Pic_N hj hP hs, Or.inl ⟨j, hj, hso, xt_pk_N hj⟩⟩
  have box : xt_so (xt_sg (S.2.1 47) n b) < 0 → ∃ lf tp w h, lf + w ≤ c ∧ tp + h ≤ r ∧ 0 < w ∧ 0 < h ∧ xt_sg (S.2.1 47) n (b + 1) - nI 97 = nI lf ∧ xt_sg (S.2.1 47) n (b + 2) - nI 65 = nI tp ∧ xt_sg (S.2.1 47) n (b + 3) - nI 97 = nI (lf + w - 1) ∧ xt_sg (S.2.1 47) n (b + 4) - nI 65 = nI (tp + h - 1) := by
    intro hso
    rcases xt_why_p (c := c) (r := r) hso with ⟨hW, _⟩ | ⟨hW, e9⟩
    · exact xt_wc_0 b2 b4 hW
    · exact absurd (e9.symm.trans hw) (fun z => by
        unfold xt_wc at z
        split at z
        · split at z
          · exact absurd z (by decide)
          · exact absurd z (by decide)
        · exact absurd z (by decide))
  have hx' := hx
  rcases hx' with h | h | h | h | h | h
  · exact set 2 (by decide) (by rw [h]; exact xt_so_c.2.2.1)
  · exact set 1 (by decide) (by rw [h]; exact xt_so_c.2.1)
  · have hso : xt_so (xt_sg (S.2.1 47) n b) < 0 := by rw [h]; exact xt_so_c.2.2.2.2.1
    obtain ⟨lf, tp, w, g, q1, q2, q3, q4, e1, e2, e3, e4⟩ := box hso
    refine xt_Ct_w (ct_carryMask hP hn9 h60 hb9 h20 hb1 hx q1 q2 q3 q4 e1 e2 e3 e4 hso (by rw [h]; decide)) (fun v S9 h9 => ?_)
    obtain ⟨h1, rfl⟩ := h9
    rw [if_pos h]
    exact ⟨h1, xt_crd_A (Or.inr rfl), ⟨sd, lv, bo, hP⟩, Or.inr ⟨hso, lf, tp, w, g, q1, by omega, q3, q4, e1, e2, e3, e4, Or.inr (Or.inl ⟨h, xt_pk_3 b2 b4 q1 q2 (xt_paint_o b2 b4 q1 q2)⟩)⟩⟩
  · have hso : xt_so (xt_sg (S.2.1 47) n b) < 0 := by rw [h]; exact xt_so_c.2.2.2.1
    obtain ⟨lf, tp, w, g, q1, q2, q3, q4, e1, e2, e3, e4⟩ := box hso
    refine xt_Ct_w (ct_carryPaint hP hn9 h60 hb9 h20 hb1 hx q1 q2 q3 q4 e1 e2 e3 e4 hso h) (fun v S9 h9 => ?_)
    obtain ⟨h1, rfl⟩ := h9
    exact ⟨h1, xt_crd_A (Or.inl rfl), ⟨sd, lv, bo, hP⟩, Or.inr ⟨hso, lf, tp, w, g, q1, by omega, q3, q4, e1, e2, e3, e4, Or.inl ⟨h, xt_pk_2 b2 b4 q1 q2⟩⟩⟩
  · exact set 0 (by decide) (by rw [h]; exact xt_so_c.1)
  · have hso : xt_so (xt_sg (S.2.1 47) n b) < 0 := by rw [h]; exact xt_so_c.2.2.2.2.2
    obtain ⟨lf, tp, w, g, q1, q2, q3, q4, e1, e2, e3, e4⟩ := box hso
    refine xt_Ct_w (ct_carryMask hP hn9 h60 hb9 h20 hb1 hx q1 q2 q3 q4 e1 e2 e3 e4 hso (by rw [h]; decide)) (fun v S9 h9 => ?_)
    obtain ⟨h1, rfl⟩ := h9
    rw [if_neg (by rw [h]; decide)]
    exact ⟨h1, xt_crd_A (Or.inr rfl), ⟨sd, lv, bo, hP⟩, Or.inr ⟨hso, lf, tp, w, g, q1, by omega, q3, q4, e1, e2, e3, e4, Or.inr (Or.inr ⟨h, xt_pk_3 b2 b4 q1 q2 (xt_paint_o b2 b4 q1 q2)⟩)⟩⟩
end XC36
