/-! THE MODEL: bands and trees -/
section XM8
variable {E : xt_Ev} {l : Launch} {S : xt_St}
theorem xt_kx1 {n lv u : Nat} (h : 0 < lv) (g : xt_lo n lv ≤ u) : xt_kx n lv u = 1 ∧ xt_bx n lv u = u - xt_lo n lv := by
  unfold xt_kx xt_bx
  rw [if_pos ⟨h, g⟩, if_pos ⟨h, g⟩]
  exact ⟨rfl, rfl⟩
theorem xt_kx0 {n lv u : Nat} (g : u < xt_lo n lv) : xt_kx n lv u = 0 ∧ xt_bx n lv u = u := by
  unfold xt_kx xt_bx
  rw [if_neg (fun z => by omega), if_neg (fun z => by omega)]
  exact ⟨rfl, rfl⟩
theorem xt_kx_le {n lv u : Nat} : xt_kx n lv u ≤ 1 := by unfold xt_kx; split <;> omega
theorem xt_kx00 {n u : Nat} : xt_kx n 0 u = 0 ∧ xt_bx n 0 u = u := by
  unfold xt_kx xt_bx
  rw [if_neg (fun z => by omega), if_neg (fun z => by omega)]
  exact ⟨rfl, rfl⟩
section PP
variable {dp w h x y L kd bc br : Nat}
theorem xt_par_0 : xt_par dp w h 0 kd bc br = -1 := by unfold xt_par; rw [if_pos rfl]
theorem xt_par_d (h0 : ¬ L = 0) (hd : L = dp) : xt_par dp w h L kd bc br = nI (8 * br + bc) := by unfold xt_par; rw [if_neg h0, if_pos hd]
theorem xt_par_y {A B : Nat} (h0 : ¬ L = 0) (hd : ¬ L = dp) (eA : bc / 2 + (if kd % 2 = 1 then xt_lo w (L + 1) else 0) = A) (eB : br / 2 + (if 2 ≤ kd then xt_lo h (L + 1) else 0) = B) (hA : A < xt_lo w L) (hB : B < xt_lo h L) : xt_par dp w h L kd bc br = nI (8 * B + A) := by
  unfold xt_par
  rw [if_neg h0, if_neg hd, eA, eB, if_pos ⟨hA, hB⟩]
theorem xt_par_n {A B : Nat} (h0 : ¬ L = 0) (hd : ¬ L = dp) (eA : bc / 2 + (if kd % 2 = 1 then xt_lo w (L + 1) else 0) = A) (eB : br / 2 + (if 2 ≤ kd then xt_lo h (L + 1) else 0) = B) (hn : ¬ (A < xt_lo w L ∧ B < xt_lo h L)) : xt_par dp w h L kd bc br = -1 := by
  unfold xt_par
  rw [if_neg h0, if_neg hd, eA, eB, if_neg hn]
/-- what the level of a place says of its band -/
theorem xt_lev_c (hd : dp ≤ 3) (hx : x < w) (hy : y < h) : (xt_lev dp w h x y = 0 ∧ xt_bd dp w h x y = 0 ∧ xt_pp dp w h x y = -1 ∧ (∀ i, i ≤ dp → x < xt_lo w i ∧ y < xt_lo h i)) ∨
    ∃ L, xt_lev dp w h x y = L ∧ 1 ≤ L ∧ L ≤ dp ∧ x < xt_lo w (L - 1) ∧ y < xt_lo h (L - 1) ∧ ((xt_lo w L ≤ x ∧ y < xt_lo h L ∧ xt_bd dp w h x y = 10 * L + 1 ∧ xt_pp dp w h x y = xt_par dp w h L 1 (x - xt_lo w L) y) ∨
      (x < xt_lo w L ∧ xt_lo h L ≤ y ∧ xt_bd dp w h x y = 10 * L + 2 ∧ xt_pp dp w h x y = xt_par dp w h L 2 x (y - xt_lo h L)) ∨
      (xt_lo w L ≤ x ∧ xt_lo h L ≤ y ∧ xt_bd dp w h x y = 10 * L + 3 ∧ xt_pp dp w h x y = xt_par dp w h L 3 (x - xt_lo w L) (y - xt_lo h L))) := by
  rcases xt_lev_sp (dp := dp) (w := w) (h := h) (x := x) (y := y) hd with ⟨h1, h2⟩ | ⟨h1, h2, h3, h4⟩
  · refine Or.inl ⟨h1, ?_, ?_, fun i hi => ?_⟩
    · unfold xt_bd xt_kd
      rw [h1, xt_kx00.1, xt_kx00.1]
    · unfold xt_pp
      rw [h1, xt_par_0]
    · by_cases e : i = 0
      · rw [e, xt_lo_0, xt_lo_0]; exact ⟨hx, hy⟩
      · exact h2 i (by omega) hi
  · refine Or.inr ⟨xt_lev dp w h x y, rfl, h1, h2, ?_⟩
    have hb : x < xt_lo w (xt_lev dp w h x y - 1) ∧ y < xt_lo h (xt_lev dp w h x y - 1) := by
      by_cases e : xt_lev dp w h x y = 1
      · rw [e, show 1 - 1 = 0 from rfl, xt_lo_0, xt_lo_0]; exact ⟨hx, hy⟩
      · exact h4 _ (by omega) (by omega)
    refine ⟨hb.1, hb.2, ?_⟩
    unfold xt_bd xt_kd xt_pp xt_kd
    by_cases a : xt_lo w (xt_lev dp w h x y) ≤ x
    · have ea := xt_kx1 (n := w) h1 a
      by_cases b : xt_lo h (xt_lev dp w h x y) ≤ y
      · have eb := xt_kx1 (n := h) h1 b
        rw [ea.1, ea.2, eb.1, eb.2]
        exact Or.inr (Or.inr ⟨a, b, rfl, rfl⟩)
      · have eb := xt_kx0 (n := h) (Nat.lt_of_not_le b)
        rw [ea.1, ea.2, eb.1, eb.2]
        exact Or.inl ⟨a, Nat.lt_of_not_le b, rfl, rfl⟩
    · have b : xt_lo h (xt_lev dp w h x y) ≤ y := by omega
      have ea := xt_kx0 (n := w) (Nat.lt_of_not_le a)
      have eb := xt_kx1 (n := h) h1 b
      rw [ea.1, ea.2, eb.1, eb.2]
      exact Or.inr (Or.inl ⟨Nat.lt_of_not_le a, b, rfl, rfl⟩)
end PP
theorem xt_bd_at {dp w h x y L : Nat} (hd : dp ≤ 3) (h1 : 1 ≤ L) (h2 : L ≤ dp) (h3 : 0 < xt_kx w L x + 2 * xt_kx h L y) (h4 : ∀ i, 1 ≤ i → i < L → x < xt_lo w i ∧ y < xt_lo h i) : xt_bd dp w h x y = 10 * L + (xt_kx w L x + 2 * xt_kx h L y) := by
  have e : xt_lev dp w h x y = L := xt_lev_at h1 h2 (by
    by_cases a : xt_lo w L ≤ x
    · exact Or.inl a
    · by_cases b : xt_lo h L ≤ y
      · exact Or.inr b
      · rw [(xt_kx0 (Nat.lt_of_not_le a)).1, (xt_kx0 (Nat.lt_of_not_le b)).1] at h3
        omega) hd h4
  unfold xt_bd xt_kd
  rw [e]
theorem xt_bd_0 {dp w h x y : Nat} (h4 : ∀ i, 1 ≤ i → i ≤ dp → x < xt_lo w i ∧ y < xt_lo h i) : xt_bd dp w h x y = 0 := by
  have e : xt_lev dp w h x y = 0 := xt_lev_0 h4
  unfold xt_bd xt_kd
  rw [e, xt_kx00.1, xt_kx00.1]
set_option maxRecDepth 20000 in
set_option maxHeartbeats 2000000 in
theorem ct_bandOf {lf tp w h dp : Nat} (hMt : xt_Mt S lf tp w h dp) {x y : Nat} (hx : x < w) (hy : y < h) : xt_Ct E l yX6_bandOf cX6_bandOf 5 (some Jvm.ClassFile.FieldType.int) 0 0 0 0 [.ref (E.1 49), .int (nI x), .int (nI y)] S (xt_Eq (some (.int (nI (xt_bd dp w h x y)))) S) := by
  refine xt_body (by decide +kernel) (xt_all rfl) (Nat.le_of_ble_eq_true rfl) (fun cx C hl9 => ?_)
  show xt_X E cx _ 0 0 0 [some (.ref (E.1 49)), some (.int (nI x)), some (.int (nI y)), none, none] [] S
  have hMt9 := hMt
  obtain ⟨m1, m2, m3, m4, g1, g2, g3, g4, g5, g6, g7⟩ := hMt
  have loop : ∀ (d j : Nat), j ≤ (dp + 1) → 1 ≤ j → (∀ i, 1 ≤ i → i < j → x < xt_lo w i ∧ y < xt_lo h i) → (dp + 1) + 1 ≤ j + d → xt_X E cx (xt_ZM E cx 0 0 (xt_Eq (some (.int (nI (xt_bd dp w h x y)))) S)) 0 0 2 [some (.ref (E.1 49)), some (.int (nI x)), some (.int (nI y)), some (.int (nI j)), none] [] S := by
    intro d
    induction d with
    | zero => intro j  h0j hj1 hb h1j; exact absurd h1j (by omega)
    | succ d ih =>
      intro j  h0j hj1 hb h1j
      have w1 := xt_lo_le (n := w) (k := j) (by omega)
      have w2 := xt_lo_le (n := h) (k := j) (by omega)
      have jk : j ≤ dp → ∀ (q : Nat), q = xt_kx w j x + 2 * xt_kx h j y → xt_X E cx (xt_ZM E cx 0 0 (xt_Eq (some (.int (nI (xt_bd dp w h x y)))) S)) 0 0 41 [some (.ref (E.1 49)), some (.int (nI x)), some (.int (nI y)), some (.int (nI j)), none] [.int (nI q)] S := by
        intro hjd q hq
        have hk1 := xt_kx_le (n := w) (lv := j) (u := x)
        have hk2 := xt_kx_le (n := h) (lv := j) (u := y)
        refine xt_istore (lo' := [_, _, _, _, _]) C dX6_bandOf_41 (Nat.le_of_ble_eq_true rfl) rfl rfl ?_
        refine xt_iload C dX6_bandOf_43 rfl ?_
        refine xt_if_leN (tgt := 56) C dX6_bandOf_45 (by decide) (by omega) (fun c45 => ?_) (fun c45 => ?_)
        · refine xt_iincN (z := 1) (lo' := [_, _, _, _, _]) C dX6_bandOf_56 rfl rfl rfl ?_
          refine xt_goto (tgt := 2) C dX6_bandOf_59 (by decide) ?_
          have hq0 : xt_kx w j x = 0 ∧ xt_kx h j y = 0 := by omega
          have hlt : x < xt_lo w j ∧ y < xt_lo h j := by
            constructor
            · apply Nat.lt_of_not_le
              intro z
              have := (xt_kx1 (n := w) (show 0 < j by omega) z).1
              omega
            · apply Nat.lt_of_not_le
              intro z
              have := (xt_kx1 (n := h) (show 0 < j by omega) z).1
              omega
          exact xt_fg (by repeat' constructor) (ih (j + 1) (by omega) (by omega) (fun i a b => by
            by_cases e : i = j
            · rw [e]; exact hlt
            · exact hb i a (by omega)) (by omega))
        · refine xt_bipush (v := nI 10) C dX6_bandOf_48 (by decide) ?_
          refine xt_iload_n C dX6_bandOf_50 rfl ?_
          refine xt_imulN C dX6_bandOf_51 ?_
          refine xt_iload C dX6_bandOf_52 rfl ?_
          refine xt_iaddN C dX6_bandOf_54 ?_
          exact xt_iret C dX6_bandOf_55 ⟨by decide, by decide⟩ (xt_qI (by rw [xt_bd_at g5 hj1 (by omega) (by omega) hb, hq]))
      refine xt_iload_n C dX6_bandOf_2 rfl ?_
      refine xt_aload_n C dX6_bandOf_3 rfl ?_
      refine xt_get (f := 18) C xt_u6 rfl (by decide) (xt_cl49 _ _) (by decide) lkX6_109 (xt_vI m3) dX6_bandOf_4 ?_
      refine xt_icmp_gtN (tgt := 62) C dX6_bandOf_7 (by decide) (by omega) (by omega) (fun c7 => ?_) (fun c7 => ?_)
      · refine xt_iconst (v := nI 0) C dX6_bandOf_62 rfl ?_
        exact xt_iret C dX6_bandOf_63 ⟨by decide, by decide⟩ (xt_qI (by rw [xt_bd_0 (fun i a b => hb i a (by omega))]))
      · refine xt_iload_n C dX6_bandOf_10 rfl ?_
        refine xt_aload_n C dX6_bandOf_11 rfl ?_
        refine xt_get (f := 19) C xt_u6 rfl (by decide) (xt_cl49 _ _) (by decide) lkX6_38 rfl dX6_bandOf_12 ?_
        refine xt_iload_n C dX6_bandOf_15 rfl ?_
        refine xt_ialdN C (by decide) (xt_cl57 _) (by omega) (by decide) (m4 j (by omega)).1 dX6_bandOf_16 ?_
        refine xt_icmp_ltN (tgt := 24) C dX6_bandOf_17 (by decide) (by omega) (by omega) (fun c17 => ?_) (fun c17 => ?_)
        · refine xt_iconst (v := nI 0) C dX6_bandOf_24 rfl ?_
          refine xt_iload_n C dX6_bandOf_25 rfl ?_
          refine xt_aload_n C dX6_bandOf_26 rfl ?_
          refine xt_get (f := 20) C xt_u6 rfl (by decide) (xt_cl49 _ _) (by decide) lkX6_41 rfl dX6_bandOf_27 ?_
          refine xt_iload_n C dX6_bandOf_30 rfl ?_
          refine xt_ialdN C (by decide) (xt_cl58 _) (by omega) (by decide) (m4 j (by omega)).2 dX6_bandOf_31 ?_
          refine xt_icmp_ltN (tgt := 39) C dX6_bandOf_32 (by decide) (by omega) (by omega) (fun c32 => ?_) (fun c32 => ?_)
          · refine xt_iconst (v := nI 0) C dX6_bandOf_39 rfl ?_
            refine xt_iaddN C dX6_bandOf_40 ?_
            refine xt_fg (by repeat' constructor) (jk (by omega) _ ?_)
            by_cases a : xt_lo w j ≤ x
            · rw [(xt_kx1 (n := w) (show 0 < j by omega) a).1]
              by_cases b : xt_lo h j ≤ y
              · rw [(xt_kx1 (n := h) (show 0 < j by omega) b).1]; first | done | omega
              · rw [(xt_kx0 (n := h) (Nat.lt_of_not_le b)).1]; first | done | omega
            · rw [(xt_kx0 (n := w) (Nat.lt_of_not_le a)).1]
              by_cases b : xt_lo h j ≤ y
              · rw [(xt_kx1 (n := h) (show 0 < j by omega) b).1]; first | done | omega
              · rw [(xt_kx0 (n := h) (Nat.lt_of_not_le b)).1]; first | done | omega
          · refine xt_iconst (v := nI 2) C dX6_bandOf_35 rfl ?_
            refine xt_goto (tgt := 40) C dX6_bandOf_36 (by decide) ?_
            refine xt_iaddN C dX6_bandOf_40 ?_
            refine xt_fg (by repeat' constructor) (jk (by omega) _ ?_)
            by_cases a : xt_lo w j ≤ x
            · rw [(xt_kx1 (n := w) (show 0 < j by omega) a).1]
              by_cases b : xt_lo h j ≤ y
              · rw [(xt_kx1 (n := h) (show 0 < j by omega) b).1]; first | done | omega
              · rw [(xt_kx0 (n := h) (Nat.lt_of_not_le b)).1]; first | done | omega
            · rw [(xt_kx0 (n := w) (Nat.lt_of_not_le a)).1]
              by_cases b : xt_lo h j ≤ y
              · rw [(xt_kx1 (n := h) (show 0 < j by omega) b).1]; first | done | omega
              · rw [(xt_kx0 (n := h) (Nat.lt_of_not_le b)).1]; first | done | omega
        · refine xt_iconst (v := nI 1) C dX6_bandOf_20 rfl ?_
          refine xt_goto (tgt := 25) C dX6_bandOf_21 (by decide) ?_
          refine xt_iload_n C dX6_bandOf_25 rfl ?_
          refine xt_aload_n C dX6_bandOf_26 rfl ?_
          refine xt_get (f := 20) C xt_u6 rfl (by decide) (xt_cl49 _ _) (by decide) lkX6_41 rfl dX6_bandOf_27 ?_
          refine xt_iload_n C dX6_bandOf_30 rfl ?_
          refine xt_ialdN C (by decide) (xt_cl58 _) (by omega) (by decide) (m4 j (by omega)).2 dX6_bandOf_31 ?_
          refine xt_icmp_ltN (tgt := 39) C dX6_bandOf_32 (by decide) (by omega) (by omega) (fun c32 => ?_) (fun c32 => ?_)
          · refine xt_iconst (v := nI 0) C dX6_bandOf_39 rfl ?_
            refine xt_iaddN C dX6_bandOf_40 ?_
            refine xt_fg (by repeat' constructor) (jk (by omega) _ ?_)
            by_cases a : xt_lo w j ≤ x
            · rw [(xt_kx1 (n := w) (show 0 < j by omega) a).1]
              by_cases b : xt_lo h j ≤ y
              · rw [(xt_kx1 (n := h) (show 0 < j by omega) b).1]; first | done | omega
              · rw [(xt_kx0 (n := h) (Nat.lt_of_not_le b)).1]; first | done | omega
            · rw [(xt_kx0 (n := w) (Nat.lt_of_not_le a)).1]
              by_cases b : xt_lo h j ≤ y
              · rw [(xt_kx1 (n := h) (show 0 < j by omega) b).1]; first | done | omega
              · rw [(xt_kx0 (n := h) (Nat.lt_of_not_le b)).1]; first | done | omega
          · refine xt_iconst (v := nI 2) C dX6_bandOf_35 rfl ?_
            refine xt_goto (tgt := 40) C dX6_bandOf_36 (by decide) ?_
            refine xt_iaddN C dX6_bandOf_40 ?_
            refine xt_fg (by repeat' constructor) (jk (by omega) _ ?_)
            by_cases a : xt_lo w j ≤ x
            · rw [(xt_kx1 (n := w) (show 0 < j by omega) a).1]
              by_cases b : xt_lo h j ≤ y
              · rw [(xt_kx1 (n := h) (show 0 < j by omega) b).1]; first | done | omega
              · rw [(xt_kx0 (n := h) (Nat.lt_of_not_le b)).1]; first | done | omega
            · rw [(xt_kx0 (n := w) (Nat.lt_of_not_le a)).1]
              by_cases b : xt_lo h j ≤ y
              · rw [(xt_kx1 (n := h) (show 0 < j by omega) b).1]; first | done | omega
              · rw [(xt_kx0 (n := h) (Nat.lt_of_not_le b)).1]; first | done | omega
  refine xt_iconst (v := nI 1) C dX6_bandOf_0 rfl ?_
  refine xt_istore_n (lo' := [_, _, _, _, _]) C dX6_bandOf_1 (Nat.le_of_ble_eq_true rfl) rfl rfl ?_
  exact xt_fg (by repeat' constructor) (loop (dp + 1 + 1) 1 (by omega) (by omega) (fun i a b => by omega) (by omega))
set_option maxRecDepth 20000 in
set_option maxHeartbeats 2000000 in
theorem ct_parent {lf tp w h dp : Nat} (hMt : xt_Mt S lf tp w h dp) {x y : Nat} (hx : x < w) (hy : y < h) : xt_Ct E l yX6_parent cX6_parent 10 (some Jvm.ClassFile.FieldType.int) 1 24 0 0 [.ref (E.1 49), .int (nI x), .int (nI y)] S (xt_Eq (some (.int (xt_pp dp w h x y))) S) := by
  refine xt_body (by decide +kernel) (xt_all rfl) (Nat.le_of_ble_eq_true rfl) (fun cx C hl9 => ?_)
  show xt_X E cx _ 0 0 0 [some (.ref (E.1 49)), some (.int (nI x)), some (.int (nI y)), none, none, none, none, none, none, none] [] S
  have hMt9 := hMt
  obtain ⟨m1, m2, m3, m4, g1, g2, g3, g4, g5, g6, g7⟩ := hMt
  rcases xt_lev_c (dp := dp) (w := w) (h := h) (x := x) (y := y) g5 hx hy with ⟨-, hbd, hpp, -⟩ | ⟨L, -, h1, h2, h3, h4, hh⟩
  · have hcb := ct_bandOf (E := E) (l := cx.2.1) (S := S) hMt9 hx hy
    rw [hbd] at hcb
    refine xt_aload_n C dX6_parent_0 rfl ?_
    refine xt_iload_n C dX6_parent_1 rfl ?_
    refine xt_iload_n C dX6_parent_2 rfl ?_
    refine xt_cV C mv_X6_bandOf lkX6_187 hcb rfl (by decide) (xt_cl49 _ _) rfl (by decide) rfl (Nat.le_of_ble_eq_true rfl) dX6_parent_3 ?_
    refine xt_istore_n (lo' := [_, _, _, _, _, _, _, _, _, _]) C dX6_parent_6 (Nat.le_of_ble_eq_true rfl) rfl rfl ?_
    refine xt_iload_n C dX6_parent_7 rfl ?_
    refine xt_if_neN (tgt := 13) C dX6_parent_8 (by decide) (by omega) (fun c8 => ?_) (fun c8 => ?_)
    · exact absurd c8 (by omega)
    · refine xt_iconst (v := -1) C dX6_parent_11 rfl ?_
      exact xt_iret C dX6_parent_12 ⟨by decide, by decide⟩ (xt_qI (by rw [hpp]))
  · have q1 := xt_lo_s (n := w) (k := L - 1) (by omega)
    have q2 := xt_lo_s (n := h) (k := L - 1) (by omega)
    rw [show L - 1 + 1 = L by omega] at q1 q2
    have q3 := xt_lo_s (n := w) (k := L) (by omega)
    have q4 := xt_lo_s (n := h) (k := L) (by omega)
    have q5 := xt_lo_le (n := w) (k := L) (by omega)
    have q6 := xt_lo_le (n := h) (k := L) (by omega)
    rcases hh with ⟨a, b, hbd, hpp⟩ | ⟨a, b, hbd, hpp⟩ | ⟨a, b, hbd, hpp⟩
    · have hcb := ct_bandOf (E := E) (l := cx.2.1) (S := S) hMt9 hx hy
      rw [hbd] at hcb
      refine xt_aload_n C dX6_parent_0 rfl ?_
      refine xt_iload_n C dX6_parent_1 rfl ?_
      refine xt_iload_n C dX6_parent_2 rfl ?_
      refine xt_cV C mv_X6_bandOf lkX6_187 hcb rfl (by decide) (xt_cl49 _ _) rfl (by decide) rfl (Nat.le_of_ble_eq_true rfl) dX6_parent_3 ?_
      refine xt_istore_n (lo' := [_, _, _, _, _, _, _, _, _, _]) C dX6_parent_6 (Nat.le_of_ble_eq_true rfl) rfl rfl ?_
      refine xt_iload_n C dX6_parent_7 rfl ?_
      refine xt_if_neN (tgt := 13) C dX6_parent_8 (by decide) (by omega) (fun c8 => ?_) (fun c8 => ?_)
      · refine xt_iload_n C dX6_parent_13 rfl ?_
        refine xt_bipush (v := nI 10) C dX6_parent_14 (by decide) ?_
        refine xt_idivN C dX6_parent_16 (by omega) (by omega) (by omega) ?_
        rw [show (10 * L + 1) / 10 = L by omega]
        refine xt_istore (lo' := [_, _, _, _, _, _, _, _, _, _]) C dX6_parent_17 (Nat.le_of_ble_eq_true rfl) rfl rfl ?_
        refine xt_iload_n C dX6_parent_19 rfl ?_
        refine xt_iconst (v := nI 2) C dX6_parent_20 rfl ?_
        refine xt_iremN C dX6_parent_21 (by omega) (by omega) (by omega) ?_
        refine xt_iconst (v := nI 1) C dX6_parent_22 rfl ?_
        refine xt_icmp_neN (tgt := 38) C dX6_parent_23 (by decide) (by omega) (by omega) (fun c23 => ?_) (fun c23 => ?_)
        · exact absurd (by omega) c23
        · refine xt_iload_n C dX6_parent_26 rfl ?_
          refine xt_aload_n C dX6_parent_27 rfl ?_
          refine xt_get (f := 19) C xt_u6 rfl (by decide) (xt_cl49 _ _) (by decide) lkX6_38 rfl dX6_parent_28 ?_
          refine xt_iload C dX6_parent_31 rfl ?_
          refine xt_ialdN C (by decide) (xt_cl57 _) (by omega) (by decide) (m4 L (by omega)).1 dX6_parent_33 ?_
          refine xt_isubN C dX6_parent_34 (by omega) ?_
          refine xt_goto (tgt := 39) C dX6_parent_35 (by decide) ?_
          refine xt_istore (lo' := [_, _, _, _, _, _, _, _, _, _]) C dX6_parent_39 (Nat.le_of_ble_eq_true rfl) rfl rfl ?_
          refine xt_iload_n C dX6_parent_41 rfl ?_
          refine xt_bipush (v := nI 10) C dX6_parent_42 (by decide) ?_
          refine xt_iremN C dX6_parent_44 (by omega) (by omega) (by omega) ?_
          refine xt_iconst (v := nI 1) C dX6_parent_45 rfl ?_
          refine xt_icmp_leN (tgt := 61) C dX6_parent_46 (by decide) (by omega) (by omega) (fun c46 => ?_) (fun c46 => ?_)
          · refine xt_iload_n C dX6_parent_61 rfl ?_
            refine xt_istore (lo' := [_, _, _, _, _, _, _, _, _, _]) C dX6_parent_62 (Nat.le_of_ble_eq_true rfl) rfl rfl ?_
            refine xt_iload C dX6_parent_64 rfl ?_
            refine xt_aload_n C dX6_parent_66 rfl ?_
            refine xt_get (f := 18) C xt_u6 rfl (by decide) (xt_cl49 _ _) (by decide) lkX6_109 (xt_vI m3) dX6_parent_67 ?_
            refine xt_icmp_neN (tgt := 110) C dX6_parent_70 (by decide) (by omega) (by omega) (fun c70 => ?_) (fun c70 => ?_)
            · refine xt_iload C dX6_parent_110 rfl ?_
              refine xt_iconst (v := nI 2) C dX6_parent_112 rfl ?_
              refine xt_idivN C dX6_parent_113 (by omega) (by omega) (by omega) ?_
              refine xt_istore (lo' := [_, _, _, _, _, _, _, _, _, _]) C dX6_parent_114 (Nat.le_of_ble_eq_true rfl) rfl rfl ?_
              refine xt_iload C dX6_parent_116 rfl ?_
              refine xt_iconst (v := nI 2) C dX6_parent_118 rfl ?_
              refine xt_idivN C dX6_parent_119 (by omega) (by omega) (by omega) ?_
              refine xt_istore (lo' := [_, _, _, _, _, _, _, _, _, _]) C dX6_parent_120 (Nat.le_of_ble_eq_true rfl) rfl rfl ?_
              refine xt_iload_n C dX6_parent_122 rfl ?_
              refine xt_iconst (v := nI 2) C dX6_parent_123 rfl ?_
              refine xt_iremN C dX6_parent_124 (by omega) (by omega) (by omega) ?_
              refine xt_iconst (v := nI 1) C dX6_parent_125 rfl ?_
              refine xt_icmp_neN (tgt := 144) C dX6_parent_126 (by decide) (by omega) (by omega) (fun c126 => ?_) (fun c126 => ?_)
              · exact absurd (by omega) c126
              · refine xt_aload_n C dX6_parent_129 rfl ?_
                refine xt_get (f := 19) C xt_u6 rfl (by decide) (xt_cl49 _ _) (by decide) lkX6_38 rfl dX6_parent_130 ?_
                refine xt_iload C dX6_parent_133 rfl ?_
                refine xt_iconst (v := nI 1) C dX6_parent_135 rfl ?_
                refine xt_iaddN C dX6_parent_136 ?_
                refine xt_ialdN C (by decide) (xt_cl57 _) (by omega) (by decide) (m4 (L + 1) (by omega)).1 dX6_parent_137 ?_
                refine xt_iload C dX6_parent_138 rfl ?_
                refine xt_iaddN C dX6_parent_140 ?_
                refine xt_goto (tgt := 146) C dX6_parent_141 (by decide) ?_
                refine xt_istore (lo' := [_, _, _, _, _, _, _, _, _, _]) C dX6_parent_146 (Nat.le_of_ble_eq_true rfl) rfl rfl ?_
                refine xt_iload_n C dX6_parent_148 rfl ?_
                refine xt_bipush (v := nI 10) C dX6_parent_149 (by decide) ?_
                refine xt_iremN C dX6_parent_151 (by omega) (by omega) (by omega) ?_
                refine xt_iconst (v := nI 1) C dX6_parent_152 rfl ?_
                refine xt_icmp_leN (tgt := 171) C dX6_parent_153 (by decide) (by omega) (by omega) (fun c153 => ?_) (fun c153 => ?_)
                · refine xt_iload C dX6_parent_171 rfl ?_
                  refine xt_istore (lo' := [_, _, _, _, _, _, _, _, _, _]) C dX6_parent_173 (Nat.le_of_ble_eq_true rfl) rfl rfl ?_
                  refine xt_iload C dX6_parent_175 rfl ?_
                  refine xt_iload_n C dX6_parent_177 rfl ?_
                  refine xt_iconst (v := nI 2) C dX6_parent_178 rfl ?_
                  refine xt_iremN C dX6_parent_179 (by omega) (by omega) (by omega) ?_
                  refine xt_iconst (v := nI 1) C dX6_parent_180 rfl ?_
                  refine xt_icmp_neN (tgt := 194) C dX6_parent_181 (by decide) (by omega) (by omega) (fun c181 => ?_) (fun c181 => ?_)
                  · exact absurd (by omega) c181
                  · refine xt_aload_n C dX6_parent_184 rfl ?_
                    refine xt_get (f := 19) C xt_u6 rfl (by decide) (xt_cl49 _ _) (by decide) lkX6_38 rfl dX6_parent_185 ?_
                    refine xt_iload C dX6_parent_188 rfl ?_
                    refine xt_ialdN C (by decide) (xt_cl57 _) (by omega) (by decide) (m4 L (by omega)).1 dX6_parent_190 ?_
                    refine xt_goto (tgt := 203) C dX6_parent_191 (by decide) ?_
                    refine xt_icmp_geN (tgt := 242) C dX6_parent_203 (by decide) (by omega) (by omega) (fun c203 => ?_) (fun c203 => ?_)
                    · refine xt_iconst (v := nI 0) C dX6_parent_242 rfl ?_
                      refine xt_istore (lo' := [_, _, _, _, _, _, _, _, _, _]) C dX6_parent_243 (Nat.le_of_ble_eq_true rfl) rfl rfl ?_
                      refine xt_iload C dX6_parent_245 rfl ?_
                      refine xt_if_eqN (tgt := 261) C dX6_parent_247 (by decide) (by decide) (fun _ => ?_) (fun c247 => absurd c247 (by decide))
                      refine xt_iconst (v := -1) C dX6_parent_261 rfl ?_
                      refine xt_iret C dX6_parent_262 ⟨by decide, by decide⟩ ?_
                      first
                      | exact xt_qI (by rw [hpp, xt_par_y (by omega) (by omega) (by rw [if_pos rfl, Nat.add_comm]) (by rw [if_neg (by decide), Nat.add_zero]) (by omega) (by omega)])
                      | exact xt_qI (by rw [hpp, xt_par_n (by omega) (by omega) (by rw [if_pos rfl, Nat.add_comm]) (by rw [if_neg (by decide), Nat.add_zero]) (by omega)])
                    · refine xt_iload C dX6_parent_206 rfl ?_
                      refine xt_iload_n C dX6_parent_208 rfl ?_
                      refine xt_bipush (v := nI 10) C dX6_parent_209 (by decide) ?_
                      refine xt_iremN C dX6_parent_211 (by omega) (by omega) (by omega) ?_
                      refine xt_iconst (v := nI 1) C dX6_parent_212 rfl ?_
                      refine xt_icmp_leN (tgt := 226) C dX6_parent_213 (by decide) (by omega) (by omega) (fun c213 => ?_) (fun c213 => ?_)
                      · refine xt_aload_n C dX6_parent_226 rfl ?_
                        refine xt_get (f := 20) C xt_u6 rfl (by decide) (xt_cl49 _ _) (by decide) lkX6_41 rfl dX6_parent_227 ?_
                        refine xt_iload C dX6_parent_230 rfl ?_
                        refine xt_iconst (v := nI 1) C dX6_parent_232 rfl ?_
                        refine xt_iaddN C dX6_parent_233 ?_
                        refine xt_ialdN C (by decide) (xt_cl58 _) (by omega) (by decide) (m4 (L + 1) (by omega)).2 dX6_parent_234 ?_
                        refine xt_icmp_geN (tgt := 242) C dX6_parent_235 (by decide) (by omega) (by omega) (fun c235 => ?_) (fun c235 => ?_)
                        · exact absurd c235 (by omega)
                        · refine xt_iconst (v := nI 1) C dX6_parent_238 rfl ?_
                          refine xt_goto (tgt := 243) C dX6_parent_239 (by decide) ?_
                          refine xt_istore (lo' := [_, _, _, _, _, _, _, _, _, _]) C dX6_parent_243 (Nat.le_of_ble_eq_true rfl) rfl rfl ?_
                          refine xt_iload C dX6_parent_245 rfl ?_
                          refine xt_if_eqN (tgt := 261) C dX6_parent_247 (by decide) (by decide) (fun c247 => absurd c247 (by decide)) (fun _ => ?_)
                          refine xt_aload_n C dX6_parent_250 rfl ?_
                          refine xt_iload C dX6_parent_251 rfl ?_
                          refine xt_iload C dX6_parent_253 rfl ?_
                          refine xt_cV C mv_X6_place lkX6_116 ct_mplace rfl (by decide) (xt_cl49 _ _) rfl (by decide) rfl (Nat.le_of_ble_eq_true rfl) dX6_parent_255 ?_
                          refine xt_goto (tgt := 262) C dX6_parent_258 (by decide) ?_
                          refine xt_iret C dX6_parent_262 ⟨by decide, by decide⟩ ?_
                          first
                          | exact xt_qI (by rw [hpp, xt_par_y (by omega) (by omega) (by rw [if_pos rfl, Nat.add_comm]) (by rw [if_neg (by decide), Nat.add_zero]) (by omega) (by omega)])
                          | exact xt_qI (by rw [hpp, xt_par_n (by omega) (by omega) (by rw [if_pos rfl, Nat.add_comm]) (by rw [if_neg (by decide), Nat.add_zero]) (by omega)])
                      · exact absurd c213 (by omega)
                · exact absurd c153 (by omega)
            · refine xt_iload C dX6_parent_73 rfl ?_
              refine xt_aload_n C dX6_parent_75 rfl ?_
              refine xt_get (f := 19) C xt_u6 rfl (by decide) (xt_cl49 _ _) (by decide) lkX6_38 rfl dX6_parent_76 ?_
              refine xt_iload C dX6_parent_79 rfl ?_
              refine xt_ialdN C (by decide) (xt_cl57 _) (by omega) (by decide) (m4 L (by omega)).1 dX6_parent_81 ?_
              refine xt_icmp_geN (tgt := 108) C dX6_parent_82 (by decide) (by omega) (by omega) (fun c82 => ?_) (fun c82 => ?_)
              · exact absurd c82 (by omega)
              · refine xt_iload C dX6_parent_85 rfl ?_
                refine xt_aload_n C dX6_parent_87 rfl ?_
                refine xt_get (f := 20) C xt_u6 rfl (by decide) (xt_cl49 _ _) (by decide) lkX6_41 rfl dX6_parent_88 ?_
                refine xt_iload C dX6_parent_91 rfl ?_
                refine xt_ialdN C (by decide) (xt_cl58 _) (by omega) (by decide) (m4 L (by omega)).2 dX6_parent_93 ?_
                refine xt_icmp_geN (tgt := 108) C dX6_parent_94 (by decide) (by omega) (by omega) (fun c94 => ?_) (fun c94 => ?_)
                · exact absurd c94 (by omega)
                · refine xt_aload_n C dX6_parent_97 rfl ?_
                  refine xt_iload C dX6_parent_98 rfl ?_
                  refine xt_iload C dX6_parent_100 rfl ?_
                  refine xt_cV C mv_X6_place lkX6_116 ct_mplace rfl (by decide) (xt_cl49 _ _) rfl (by decide) rfl (Nat.le_of_ble_eq_true rfl) dX6_parent_102 ?_
                  refine xt_goto (tgt := 109) C dX6_parent_105 (by decide) ?_
                  exact xt_iret C dX6_parent_109 ⟨by decide, by decide⟩ (xt_qI (by rw [hpp, xt_par_d (by omega) (by omega)]))
          · exact absurd c46 (by omega)
      · exact absurd c8 (by omega)
    · have hcb := ct_bandOf (E := E) (l := cx.2.1) (S := S) hMt9 hx hy
      rw [hbd] at hcb
      refine xt_aload_n C dX6_parent_0 rfl ?_
      refine xt_iload_n C dX6_parent_1 rfl ?_
      refine xt_iload_n C dX6_parent_2 rfl ?_
      refine xt_cV C mv_X6_bandOf lkX6_187 hcb rfl (by decide) (xt_cl49 _ _) rfl (by decide) rfl (Nat.le_of_ble_eq_true rfl) dX6_parent_3 ?_
      refine xt_istore_n (lo' := [_, _, _, _, _, _, _, _, _, _]) C dX6_parent_6 (Nat.le_of_ble_eq_true rfl) rfl rfl ?_
      refine xt_iload_n C dX6_parent_7 rfl ?_
      refine xt_if_neN (tgt := 13) C dX6_parent_8 (by decide) (by omega) (fun c8 => ?_) (fun c8 => ?_)
      · refine xt_iload_n C dX6_parent_13 rfl ?_
        refine xt_bipush (v := nI 10) C dX6_parent_14 (by decide) ?_
        refine xt_idivN C dX6_parent_16 (by omega) (by omega) (by omega) ?_
        rw [show (10 * L + 2) / 10 = L by omega]
        refine xt_istore (lo' := [_, _, _, _, _, _, _, _, _, _]) C dX6_parent_17 (Nat.le_of_ble_eq_true rfl) rfl rfl ?_
        refine xt_iload_n C dX6_parent_19 rfl ?_
        refine xt_iconst (v := nI 2) C dX6_parent_20 rfl ?_
        refine xt_iremN C dX6_parent_21 (by omega) (by omega) (by omega) ?_
        refine xt_iconst (v := nI 1) C dX6_parent_22 rfl ?_
        refine xt_icmp_neN (tgt := 38) C dX6_parent_23 (by decide) (by omega) (by omega) (fun c23 => ?_) (fun c23 => ?_)
        · refine xt_iload_n C dX6_parent_38 rfl ?_
          refine xt_istore (lo' := [_, _, _, _, _, _, _, _, _, _]) C dX6_parent_39 (Nat.le_of_ble_eq_true rfl) rfl rfl ?_
          refine xt_iload_n C dX6_parent_41 rfl ?_
          refine xt_bipush (v := nI 10) C dX6_parent_42 (by decide) ?_
          refine xt_iremN C dX6_parent_44 (by omega) (by omega) (by omega) ?_
          refine xt_iconst (v := nI 1) C dX6_parent_45 rfl ?_
          refine xt_icmp_leN (tgt := 61) C dX6_parent_46 (by decide) (by omega) (by omega) (fun c46 => ?_) (fun c46 => ?_)
          · exact absurd c46 (by omega)
          · refine xt_iload_n C dX6_parent_49 rfl ?_
            refine xt_aload_n C dX6_parent_50 rfl ?_
            refine xt_get (f := 20) C xt_u6 rfl (by decide) (xt_cl49 _ _) (by decide) lkX6_41 rfl dX6_parent_51 ?_
            refine xt_iload C dX6_parent_54 rfl ?_
            refine xt_ialdN C (by decide) (xt_cl58 _) (by omega) (by decide) (m4 L (by omega)).2 dX6_parent_56 ?_
            refine xt_isubN C dX6_parent_57 (by omega) ?_
            refine xt_goto (tgt := 62) C dX6_parent_58 (by decide) ?_
            refine xt_istore (lo' := [_, _, _, _, _, _, _, _, _, _]) C dX6_parent_62 (Nat.le_of_ble_eq_true rfl) rfl rfl ?_
            refine xt_iload C dX6_parent_64 rfl ?_
            refine xt_aload_n C dX6_parent_66 rfl ?_
            refine xt_get (f := 18) C xt_u6 rfl (by decide) (xt_cl49 _ _) (by decide) lkX6_109 (xt_vI m3) dX6_parent_67 ?_
            refine xt_icmp_neN (tgt := 110) C dX6_parent_70 (by decide) (by omega) (by omega) (fun c70 => ?_) (fun c70 => ?_)
            · refine xt_iload C dX6_parent_110 rfl ?_
              refine xt_iconst (v := nI 2) C dX6_parent_112 rfl ?_
              refine xt_idivN C dX6_parent_113 (by omega) (by omega) (by omega) ?_
              refine xt_istore (lo' := [_, _, _, _, _, _, _, _, _, _]) C dX6_parent_114 (Nat.le_of_ble_eq_true rfl) rfl rfl ?_
              refine xt_iload C dX6_parent_116 rfl ?_
              refine xt_iconst (v := nI 2) C dX6_parent_118 rfl ?_
              refine xt_idivN C dX6_parent_119 (by omega) (by omega) (by omega) ?_
              refine xt_istore (lo' := [_, _, _, _, _, _, _, _, _, _]) C dX6_parent_120 (Nat.le_of_ble_eq_true rfl) rfl rfl ?_
              refine xt_iload_n C dX6_parent_122 rfl ?_
              refine xt_iconst (v := nI 2) C dX6_parent_123 rfl ?_
              refine xt_iremN C dX6_parent_124 (by omega) (by omega) (by omega) ?_
              refine xt_iconst (v := nI 1) C dX6_parent_125 rfl ?_
              refine xt_icmp_neN (tgt := 144) C dX6_parent_126 (by decide) (by omega) (by omega) (fun c126 => ?_) (fun c126 => ?_)
              · refine xt_iload C dX6_parent_144 rfl ?_
                refine xt_istore (lo' := [_, _, _, _, _, _, _, _, _, _]) C dX6_parent_146 (Nat.le_of_ble_eq_true rfl) rfl rfl ?_
                refine xt_iload_n C dX6_parent_148 rfl ?_
                refine xt_bipush (v := nI 10) C dX6_parent_149 (by decide) ?_
                refine xt_iremN C dX6_parent_151 (by omega) (by omega) (by omega) ?_
                refine xt_iconst (v := nI 1) C dX6_parent_152 rfl ?_
                refine xt_icmp_leN (tgt := 171) C dX6_parent_153 (by decide) (by omega) (by omega) (fun c153 => ?_) (fun c153 => ?_)
                · exact absurd c153 (by omega)
                · refine xt_aload_n C dX6_parent_156 rfl ?_
                  refine xt_get (f := 20) C xt_u6 rfl (by decide) (xt_cl49 _ _) (by decide) lkX6_41 rfl dX6_parent_157 ?_
                  refine xt_iload C dX6_parent_160 rfl ?_
                  refine xt_iconst (v := nI 1) C dX6_parent_162 rfl ?_
                  refine xt_iaddN C dX6_parent_163 ?_
                  refine xt_ialdN C (by decide) (xt_cl58 _) (by omega) (by decide) (m4 (L + 1) (by omega)).2 dX6_parent_164 ?_
                  refine xt_iload C dX6_parent_165 rfl ?_
                  refine xt_iaddN C dX6_parent_167 ?_
                  refine xt_goto (tgt := 173) C dX6_parent_168 (by decide) ?_
                  refine xt_istore (lo' := [_, _, _, _, _, _, _, _, _, _]) C dX6_parent_173 (Nat.le_of_ble_eq_true rfl) rfl rfl ?_
                  refine xt_iload C dX6_parent_175 rfl ?_
                  refine xt_iload_n C dX6_parent_177 rfl ?_
                  refine xt_iconst (v := nI 2) C dX6_parent_178 rfl ?_
                  refine xt_iremN C dX6_parent_179 (by omega) (by omega) (by omega) ?_
                  refine xt_iconst (v := nI 1) C dX6_parent_180 rfl ?_
                  refine xt_icmp_neN (tgt := 194) C dX6_parent_181 (by decide) (by omega) (by omega) (fun c181 => ?_) (fun c181 => ?_)
                  · refine xt_aload_n C dX6_parent_194 rfl ?_
                    refine xt_get (f := 19) C xt_u6 rfl (by decide) (xt_cl49 _ _) (by decide) lkX6_38 rfl dX6_parent_195 ?_
                    refine xt_iload C dX6_parent_198 rfl ?_
                    refine xt_iconst (v := nI 1) C dX6_parent_200 rfl ?_
                    refine xt_iaddN C dX6_parent_201 ?_
                    refine xt_ialdN C (by decide) (xt_cl57 _) (by omega) (by decide) (m4 (L + 1) (by omega)).1 dX6_parent_202 ?_
                    refine xt_icmp_geN (tgt := 242) C dX6_parent_203 (by decide) (by omega) (by omega) (fun c203 => ?_) (fun c203 => ?_)
                    · exact absurd c203 (by omega)
                    · refine xt_iload C dX6_parent_206 rfl ?_
                      refine xt_iload_n C dX6_parent_208 rfl ?_
                      refine xt_bipush (v := nI 10) C dX6_parent_209 (by decide) ?_
                      refine xt_iremN C dX6_parent_211 (by omega) (by omega) (by omega) ?_
                      refine xt_iconst (v := nI 1) C dX6_parent_212 rfl ?_
                      refine xt_icmp_leN (tgt := 226) C dX6_parent_213 (by decide) (by omega) (by omega) (fun c213 => ?_) (fun c213 => ?_)
                      · exact absurd c213 (by omega)
                      · refine xt_aload_n C dX6_parent_216 rfl ?_
                        refine xt_get (f := 20) C xt_u6 rfl (by decide) (xt_cl49 _ _) (by decide) lkX6_41 rfl dX6_parent_217 ?_
                        refine xt_iload C dX6_parent_220 rfl ?_
                        refine xt_ialdN C (by decide) (xt_cl58 _) (by omega) (by decide) (m4 L (by omega)).2 dX6_parent_222 ?_
                        refine xt_goto (tgt := 235) C dX6_parent_223 (by decide) ?_
                        refine xt_icmp_geN (tgt := 242) C dX6_parent_235 (by decide) (by omega) (by omega) (fun c235 => ?_) (fun c235 => ?_)
                        · refine xt_iconst (v := nI 0) C dX6_parent_242 rfl ?_
                          refine xt_istore (lo' := [_, _, _, _, _, _, _, _, _, _]) C dX6_parent_243 (Nat.le_of_ble_eq_true rfl) rfl rfl ?_
                          refine xt_iload C dX6_parent_245 rfl ?_
                          refine xt_if_eqN (tgt := 261) C dX6_parent_247 (by decide) (by decide) (fun _ => ?_) (fun c247 => absurd c247 (by decide))
                          refine xt_iconst (v := -1) C dX6_parent_261 rfl ?_
                          refine xt_iret C dX6_parent_262 ⟨by decide, by decide⟩ ?_
                          first
                          | exact xt_qI (by rw [hpp, xt_par_y (by omega) (by omega) (by rw [if_neg (by decide), Nat.add_zero]) (by rw [if_pos (by decide), Nat.add_comm]) (by omega) (by omega)])
                          | exact xt_qI (by rw [hpp, xt_par_n (by omega) (by omega) (by rw [if_neg (by decide), Nat.add_zero]) (by rw [if_pos (by decide), Nat.add_comm]) (by omega)])
                        · refine xt_iconst (v := nI 1) C dX6_parent_238 rfl ?_
                          refine xt_goto (tgt := 243) C dX6_parent_239 (by decide) ?_
                          refine xt_istore (lo' := [_, _, _, _, _, _, _, _, _, _]) C dX6_parent_243 (Nat.le_of_ble_eq_true rfl) rfl rfl ?_
                          refine xt_iload C dX6_parent_245 rfl ?_
                          refine xt_if_eqN (tgt := 261) C dX6_parent_247 (by decide) (by decide) (fun c247 => absurd c247 (by decide)) (fun _ => ?_)
                          refine xt_aload_n C dX6_parent_250 rfl ?_
                          refine xt_iload C dX6_parent_251 rfl ?_
                          refine xt_iload C dX6_parent_253 rfl ?_
                          refine xt_cV C mv_X6_place lkX6_116 ct_mplace rfl (by decide) (xt_cl49 _ _) rfl (by decide) rfl (Nat.le_of_ble_eq_true rfl) dX6_parent_255 ?_
                          refine xt_goto (tgt := 262) C dX6_parent_258 (by decide) ?_
                          refine xt_iret C dX6_parent_262 ⟨by decide, by decide⟩ ?_
                          first
                          | exact xt_qI (by rw [hpp, xt_par_y (by omega) (by omega) (by rw [if_neg (by decide), Nat.add_zero]) (by rw [if_pos (by decide), Nat.add_comm]) (by omega) (by omega)])
                          | exact xt_qI (by rw [hpp, xt_par_n (by omega) (by omega) (by rw [if_neg (by decide), Nat.add_zero]) (by rw [if_pos (by decide), Nat.add_comm]) (by omega)])
                  · exact absurd c181 (by omega)
              · exact absurd c126 (by omega)
            · refine xt_iload C dX6_parent_73 rfl ?_
              refine xt_aload_n C dX6_parent_75 rfl ?_
              refine xt_get (f := 19) C xt_u6 rfl (by decide) (xt_cl49 _ _) (by decide) lkX6_38 rfl dX6_parent_76 ?_
              refine xt_iload C dX6_parent_79 rfl ?_
              refine xt_ialdN C (by decide) (xt_cl57 _) (by omega) (by decide) (m4 L (by omega)).1 dX6_parent_81 ?_
              refine xt_icmp_geN (tgt := 108) C dX6_parent_82 (by decide) (by omega) (by omega) (fun c82 => ?_) (fun c82 => ?_)
              · exact absurd c82 (by omega)
              · refine xt_iload C dX6_parent_85 rfl ?_
                refine xt_aload_n C dX6_parent_87 rfl ?_
                refine xt_get (f := 20) C xt_u6 rfl (by decide) (xt_cl49 _ _) (by decide) lkX6_41 rfl dX6_parent_88 ?_
                refine xt_iload C dX6_parent_91 rfl ?_
                refine xt_ialdN C (by decide) (xt_cl58 _) (by omega) (by decide) (m4 L (by omega)).2 dX6_parent_93 ?_
                refine xt_icmp_geN (tgt := 108) C dX6_parent_94 (by decide) (by omega) (by omega) (fun c94 => ?_) (fun c94 => ?_)
                · exact absurd c94 (by omega)
                · refine xt_aload_n C dX6_parent_97 rfl ?_
                  refine xt_iload C dX6_parent_98 rfl ?_
                  refine xt_iload C dX6_parent_100 rfl ?_
                  refine xt_cV C mv_X6_place lkX6_116 ct_mplace rfl (by decide) (xt_cl49 _ _) rfl (by decide) rfl (Nat.le_of_ble_eq_true rfl) dX6_parent_102 ?_
                  refine xt_goto (tgt := 109) C dX6_parent_105 (by decide) ?_
                  exact xt_iret C dX6_parent_109 ⟨by decide, by decide⟩ (xt_qI (by rw [hpp, xt_par_d (by omega) (by omega)]))
        · exact absurd c23 (by omega)
      · exact absurd c8 (by omega)
    · have hcb := ct_bandOf (E := E) (l := cx.2.1) (S := S) hMt9 hx hy
      rw [hbd] at hcb
      refine xt_aload_n C dX6_parent_0 rfl ?_
      refine xt_iload_n C dX6_parent_1 rfl ?_
      refine xt_iload_n C dX6_parent_2 rfl ?_
      refine xt_cV C mv_X6_bandOf lkX6_187 hcb rfl (by decide) (xt_cl49 _ _) rfl (by decide) rfl (Nat.le_of_ble_eq_true rfl) dX6_parent_3 ?_
      refine xt_istore_n (lo' := [_, _, _, _, _, _, _, _, _, _]) C dX6_parent_6 (Nat.le_of_ble_eq_true rfl) rfl rfl ?_
      refine xt_iload_n C dX6_parent_7 rfl ?_
      refine xt_if_neN (tgt := 13) C dX6_parent_8 (by decide) (by omega) (fun c8 => ?_) (fun c8 => ?_)
      · refine xt_iload_n C dX6_parent_13 rfl ?_
        refine xt_bipush (v := nI 10) C dX6_parent_14 (by decide) ?_
        refine xt_idivN C dX6_parent_16 (by omega) (by omega) (by omega) ?_
        rw [show (10 * L + 3) / 10 = L by omega]
        refine xt_istore (lo' := [_, _, _, _, _, _, _, _, _, _]) C dX6_parent_17 (Nat.le_of_ble_eq_true rfl) rfl rfl ?_
        refine xt_iload_n C dX6_parent_19 rfl ?_
        refine xt_iconst (v := nI 2) C dX6_parent_20 rfl ?_
        refine xt_iremN C dX6_parent_21 (by omega) (by omega) (by omega) ?_
        refine xt_iconst (v := nI 1) C dX6_parent_22 rfl ?_
        refine xt_icmp_neN (tgt := 38) C dX6_parent_23 (by decide) (by omega) (by omega) (fun c23 => ?_) (fun c23 => ?_)
        · exact absurd (by omega) c23
        · refine xt_iload_n C dX6_parent_26 rfl ?_
          refine xt_aload_n C dX6_parent_27 rfl ?_
          refine xt_get (f := 19) C xt_u6 rfl (by decide) (xt_cl49 _ _) (by decide) lkX6_38 rfl dX6_parent_28 ?_
          refine xt_iload C dX6_parent_31 rfl ?_
          refine xt_ialdN C (by decide) (xt_cl57 _) (by omega) (by decide) (m4 L (by omega)).1 dX6_parent_33 ?_
          refine xt_isubN C dX6_parent_34 (by omega) ?_
          refine xt_goto (tgt := 39) C dX6_parent_35 (by decide) ?_
          refine xt_istore (lo' := [_, _, _, _, _, _, _, _, _, _]) C dX6_parent_39 (Nat.le_of_ble_eq_true rfl) rfl rfl ?_
          refine xt_iload_n C dX6_parent_41 rfl ?_
          refine xt_bipush (v := nI 10) C dX6_parent_42 (by decide) ?_
          refine xt_iremN C dX6_parent_44 (by omega) (by omega) (by omega) ?_
          refine xt_iconst (v := nI 1) C dX6_parent_45 rfl ?_
          refine xt_icmp_leN (tgt := 61) C dX6_parent_46 (by decide) (by omega) (by omega) (fun c46 => ?_) (fun c46 => ?_)
          · exact absurd c46 (by omega)
          · refine xt_iload_n C dX6_parent_49 rfl ?_
            refine xt_aload_n C dX6_parent_50 rfl ?_
            refine xt_get (f := 20) C xt_u6 rfl (by decide) (xt_cl49 _ _) (by decide) lkX6_41 rfl dX6_parent_51 ?_
            refine xt_iload C dX6_parent_54 rfl ?_
            refine xt_ialdN C (by decide) (xt_cl58 _) (by omega) (by decide) (m4 L (by omega)).2 dX6_parent_56 ?_
            refine xt_isubN C dX6_parent_57 (by omega) ?_
            refine xt_goto (tgt := 62) C dX6_parent_58 (by decide) ?_
            refine xt_istore (lo' := [_, _, _, _, _, _, _, _, _, _]) C dX6_parent_62 (Nat.le_of_ble_eq_true rfl) rfl rfl ?_
            refine xt_iload C dX6_parent_64 rfl ?_
            refine xt_aload_n C dX6_parent_66 rfl ?_
            refine xt_get (f := 18) C xt_u6 rfl (by decide) (xt_cl49 _ _) (by decide) lkX6_109 (xt_vI m3) dX6_parent_67 ?_
            refine xt_icmp_neN (tgt := 110) C dX6_parent_70 (by decide) (by omega) (by omega) (fun c70 => ?_) (fun c70 => ?_)
            · refine xt_iload C dX6_parent_110 rfl ?_
              refine xt_iconst (v := nI 2) C dX6_parent_112 rfl ?_
              refine xt_idivN C dX6_parent_113 (by omega) (by omega) (by omega) ?_
              refine xt_istore (lo' := [_, _, _, _, _, _, _, _, _, _]) C dX6_parent_114 (Nat.le_of_ble_eq_true rfl) rfl rfl ?_
              refine xt_iload C dX6_parent_116 rfl ?_
              refine xt_iconst (v := nI 2) C dX6_parent_118 rfl ?_
              refine xt_idivN C dX6_parent_119 (by omega) (by omega) (by omega) ?_
              refine xt_istore (lo' := [_, _, _, _, _, _, _, _, _, _]) C dX6_parent_120 (Nat.le_of_ble_eq_true rfl) rfl rfl ?_
              refine xt_iload_n C dX6_parent_122 rfl ?_
              refine xt_iconst (v := nI 2) C dX6_parent_123 rfl ?_
              refine xt_iremN C dX6_parent_124 (by omega) (by omega) (by omega) ?_
              refine xt_iconst (v := nI 1) C dX6_parent_125 rfl ?_
              refine xt_icmp_neN (tgt := 144) C dX6_parent_126 (by decide) (by omega) (by omega) (fun c126 => ?_) (fun c126 => ?_)
              · exact absurd (by omega) c126
              · refine xt_aload_n C dX6_parent_129 rfl ?_
                refine xt_get (f := 19) C xt_u6 rfl (by decide) (xt_cl49 _ _) (by decide) lkX6_38 rfl dX6_parent_130 ?_
                refine xt_iload C dX6_parent_133 rfl ?_
                refine xt_iconst (v := nI 1) C dX6_parent_135 rfl ?_
                refine xt_iaddN C dX6_parent_136 ?_
                refine xt_ialdN C (by decide) (xt_cl57 _) (by omega) (by decide) (m4 (L + 1) (by omega)).1 dX6_parent_137 ?_
                refine xt_iload C dX6_parent_138 rfl ?_
                refine xt_iaddN C dX6_parent_140 ?_
                refine xt_goto (tgt := 146) C dX6_parent_141 (by decide) ?_
                refine xt_istore (lo' := [_, _, _, _, _, _, _, _, _, _]) C dX6_parent_146 (Nat.le_of_ble_eq_true rfl) rfl rfl ?_
                refine xt_iload_n C dX6_parent_148 rfl ?_
                refine xt_bipush (v := nI 10) C dX6_parent_149 (by decide) ?_
                refine xt_iremN C dX6_parent_151 (by omega) (by omega) (by omega) ?_
                refine xt_iconst (v := nI 1) C dX6_parent_152 rfl ?_
                refine xt_icmp_leN (tgt := 171) C dX6_parent_153 (by decide) (by omega) (by omega) (fun c153 => ?_) (fun c153 => ?_)
                · exact absurd c153 (by omega)
                · refine xt_aload_n C dX6_parent_156 rfl ?_
                  refine xt_get (f := 20) C xt_u6 rfl (by decide) (xt_cl49 _ _) (by decide) lkX6_41 rfl dX6_parent_157 ?_
                  refine xt_iload C dX6_parent_160 rfl ?_
                  refine xt_iconst (v := nI 1) C dX6_parent_162 rfl ?_
                  refine xt_iaddN C dX6_parent_163 ?_
                  refine xt_ialdN C (by decide) (xt_cl58 _) (by omega) (by decide) (m4 (L + 1) (by omega)).2 dX6_parent_164 ?_
                  refine xt_iload C dX6_parent_165 rfl ?_
                  refine xt_iaddN C dX6_parent_167 ?_
                  refine xt_goto (tgt := 173) C dX6_parent_168 (by decide) ?_
                  refine xt_istore (lo' := [_, _, _, _, _, _, _, _, _, _]) C dX6_parent_173 (Nat.le_of_ble_eq_true rfl) rfl rfl ?_
                  refine xt_iload C dX6_parent_175 rfl ?_
                  refine xt_iload_n C dX6_parent_177 rfl ?_
                  refine xt_iconst (v := nI 2) C dX6_parent_178 rfl ?_
                  refine xt_iremN C dX6_parent_179 (by omega) (by omega) (by omega) ?_
                  refine xt_iconst (v := nI 1) C dX6_parent_180 rfl ?_
                  refine xt_icmp_neN (tgt := 194) C dX6_parent_181 (by decide) (by omega) (by omega) (fun c181 => ?_) (fun c181 => ?_)
                  · exact absurd (by omega) c181
                  · refine xt_aload_n C dX6_parent_184 rfl ?_
                    refine xt_get (f := 19) C xt_u6 rfl (by decide) (xt_cl49 _ _) (by decide) lkX6_38 rfl dX6_parent_185 ?_
                    refine xt_iload C dX6_parent_188 rfl ?_
                    refine xt_ialdN C (by decide) (xt_cl57 _) (by omega) (by decide) (m4 L (by omega)).1 dX6_parent_190 ?_
                    refine xt_goto (tgt := 203) C dX6_parent_191 (by decide) ?_
                    refine xt_icmp_geN (tgt := 242) C dX6_parent_203 (by decide) (by omega) (by omega) (fun c203 => ?_) (fun c203 => ?_)
                    · refine xt_iconst (v := nI 0) C dX6_parent_242 rfl ?_
                      refine xt_istore (lo' := [_, _, _, _, _, _, _, _, _, _]) C dX6_parent_243 (Nat.le_of_ble_eq_true rfl) rfl rfl ?_
                      refine xt_iload C dX6_parent_245 rfl ?_
                      refine xt_if_eqN (tgt := 261) C dX6_parent_247 (by decide) (by decide) (fun _ => ?_) (fun c247 => absurd c247 (by decide))
                      refine xt_iconst (v := -1) C dX6_parent_261 rfl ?_
                      refine xt_iret C dX6_parent_262 ⟨by decide, by decide⟩ ?_
                      first
                      | exact xt_qI (by rw [hpp, xt_par_y (by omega) (by omega) (by rw [if_pos rfl, Nat.add_comm]) (by rw [if_pos (by decide), Nat.add_comm]) (by omega) (by omega)])
                      | exact xt_qI (by rw [hpp, xt_par_n (by omega) (by omega) (by rw [if_pos rfl, Nat.add_comm]) (by rw [if_pos (by decide), Nat.add_comm]) (by omega)])
                    · refine xt_iload C dX6_parent_206 rfl ?_
                      refine xt_iload_n C dX6_parent_208 rfl ?_
                      refine xt_bipush (v := nI 10) C dX6_parent_209 (by decide) ?_
                      refine xt_iremN C dX6_parent_211 (by omega) (by omega) (by omega) ?_
                      refine xt_iconst (v := nI 1) C dX6_parent_212 rfl ?_
                      refine xt_icmp_leN (tgt := 226) C dX6_parent_213 (by decide) (by omega) (by omega) (fun c213 => ?_) (fun c213 => ?_)
                      · exact absurd c213 (by omega)
                      · refine xt_aload_n C dX6_parent_216 rfl ?_
                        refine xt_get (f := 20) C xt_u6 rfl (by decide) (xt_cl49 _ _) (by decide) lkX6_41 rfl dX6_parent_217 ?_
                        refine xt_iload C dX6_parent_220 rfl ?_
                        refine xt_ialdN C (by decide) (xt_cl58 _) (by omega) (by decide) (m4 L (by omega)).2 dX6_parent_222 ?_
                        refine xt_goto (tgt := 235) C dX6_parent_223 (by decide) ?_
                        refine xt_icmp_geN (tgt := 242) C dX6_parent_235 (by decide) (by omega) (by omega) (fun c235 => ?_) (fun c235 => ?_)
                        · refine xt_iconst (v := nI 0) C dX6_parent_242 rfl ?_
                          refine xt_istore (lo' := [_, _, _, _, _, _, _, _, _, _]) C dX6_parent_243 (Nat.le_of_ble_eq_true rfl) rfl rfl ?_
                          refine xt_iload C dX6_parent_245 rfl ?_
                          refine xt_if_eqN (tgt := 261) C dX6_parent_247 (by decide) (by decide) (fun _ => ?_) (fun c247 => absurd c247 (by decide))
                          refine xt_iconst (v := -1) C dX6_parent_261 rfl ?_
                          refine xt_iret C dX6_parent_262 ⟨by decide, by decide⟩ ?_
                          first
                          | exact xt_qI (by rw [hpp, xt_par_y (by omega) (by omega) (by rw [if_pos rfl, Nat.add_comm]) (by rw [if_pos (by decide), Nat.add_comm]) (by omega) (by omega)])
                          | exact xt_qI (by rw [hpp, xt_par_n (by omega) (by omega) (by rw [if_pos rfl, Nat.add_comm]) (by rw [if_pos (by decide), Nat.add_comm]) (by omega)])
                        · refine xt_iconst (v := nI 1) C dX6_parent_238 rfl ?_
                          refine xt_goto (tgt := 243) C dX6_parent_239 (by decide) ?_
                          refine xt_istore (lo' := [_, _, _, _, _, _, _, _, _, _]) C dX6_parent_243 (Nat.le_of_ble_eq_true rfl) rfl rfl ?_
                          refine xt_iload C dX6_parent_245 rfl ?_
                          refine xt_if_eqN (tgt := 261) C dX6_parent_247 (by decide) (by decide) (fun c247 => absurd c247 (by decide)) (fun _ => ?_)
                          refine xt_aload_n C dX6_parent_250 rfl ?_
                          refine xt_iload C dX6_parent_251 rfl ?_
                          refine xt_iload C dX6_parent_253 rfl ?_
                          refine xt_cV C mv_X6_place lkX6_116 ct_mplace rfl (by decide) (xt_cl49 _ _) rfl (by decide) rfl (Nat.le_of_ble_eq_true rfl) dX6_parent_255 ?_
                          refine xt_goto (tgt := 262) C dX6_parent_258 (by decide) ?_
                          refine xt_iret C dX6_parent_262 ⟨by decide, by decide⟩ ?_
                          first
                          | exact xt_qI (by rw [hpp, xt_par_y (by omega) (by omega) (by rw [if_pos rfl, Nat.add_comm]) (by rw [if_pos (by decide), Nat.add_comm]) (by omega) (by omega)])
                          | exact xt_qI (by rw [hpp, xt_par_n (by omega) (by omega) (by rw [if_pos rfl, Nat.add_comm]) (by rw [if_pos (by decide), Nat.add_comm]) (by omega)])
            · refine xt_iload C dX6_parent_73 rfl ?_
              refine xt_aload_n C dX6_parent_75 rfl ?_
              refine xt_get (f := 19) C xt_u6 rfl (by decide) (xt_cl49 _ _) (by decide) lkX6_38 rfl dX6_parent_76 ?_
              refine xt_iload C dX6_parent_79 rfl ?_
              refine xt_ialdN C (by decide) (xt_cl57 _) (by omega) (by decide) (m4 L (by omega)).1 dX6_parent_81 ?_
              refine xt_icmp_geN (tgt := 108) C dX6_parent_82 (by decide) (by omega) (by omega) (fun c82 => ?_) (fun c82 => ?_)
              · exact absurd c82 (by omega)
              · refine xt_iload C dX6_parent_85 rfl ?_
                refine xt_aload_n C dX6_parent_87 rfl ?_
                refine xt_get (f := 20) C xt_u6 rfl (by decide) (xt_cl49 _ _) (by decide) lkX6_41 rfl dX6_parent_88 ?_
                refine xt_iload C dX6_parent_91 rfl ?_
                refine xt_ialdN C (by decide) (xt_cl58 _) (by omega) (by decide) (m4 L (by omega)).2 dX6_parent_93 ?_
                refine xt_icmp_geN (tgt := 108) C dX6_parent_94 (by decide) (by omega) (by omega) (fun c94 => ?_) (fun c94 => ?_)
                · exact absurd c94 (by omega)
                · refine xt_aload_n C dX6_parent_97 rfl ?_
                  refine xt_iload C dX6_parent_98 rfl ?_
                  refine xt_iload C dX6_parent_100 rfl ?_
                  refine xt_cV C mv_X6_place lkX6_116 ct_mplace rfl (by decide) (xt_cl49 _ _) rfl (by decide) rfl (Nat.le_of_ble_eq_true rfl) dX6_parent_102 ?_
                  refine xt_goto (tgt := 109) C dX6_parent_105 (by decide) ?_
                  exact xt_iret C dX6_parent_109 ⟨by decide, by decide⟩ (xt_qI (by rw [hpp, xt_par_d (by omega) (by omega)]))
      · exact absurd c8 (by omega)
theorem xt_pf_lev {dp w h p q : Nat} (hd : dp ≤ 3) (hw : w ≤ 8) (hh : h ≤ 8) (hp : xt_in w h p) (e : xt_pf dp w h p = some q) : 1 ≤ xt_lev dp w h (p % 8) (p / 8) ∧ (xt_lev dp w h (p % 8) (p / 8) = dp → xt_lev dp w h (q % 8) (q / 8) = 0) ∧ (xt_lev dp w h (p % 8) (p / 8) < dp → xt_lev dp w h (q % 8) (q / 8) = xt_lev dp w h (p % 8) (p / 8) + 1) := by
  have hI := xt_pf_I hd hw hh hp
  rw [e] at hI
  have hq := xt_pf_T hd hw hh p q hp e
  have hq64 := xt_in64 hw hh hq
  have hI2 : xt_pp dp w h (p % 8) (p / 8) = nI q := hI
  have neg : ¬ nI q = -1 := fun z => absurd (show nI q < 0 by rw [z]; decide) (nI_pos (by omega))
  rcases xt_lev_c (dp := dp) (w := w) (h := h) (x := p % 8) (y := p / 8) hd hp.1 hp.2 with ⟨-, -, hpp, -⟩ | ⟨L, hL, h1, h2, h3, h4, hh9⟩
  · rw [hpp] at hI2
    exact absurd hI2.symm neg
  · rw [hL]
    have q1 := xt_lo_s (n := w) (k := L - 1) (by omega)
    have q2 := xt_lo_s (n := h) (k := L - 1) (by omega)
    rw [show L - 1 + 1 = L by omega] at q1 q2
    have key : ∃ bc br kd, 1 ≤ kd ∧ kd ≤ 3 ∧ bc < xt_lo w L ∧ br < xt_lo h L ∧ bc < 8 ∧ br < 8 ∧ xt_pp dp w h (p % 8) (p / 8) = xt_par dp w h L kd bc br := by
      have z1 := hp.1
      have z2 := hp.2
      rcases hh9 with ⟨a, b, -, hpp⟩ | ⟨a, b, -, hpp⟩ | ⟨a, b, -, hpp⟩
      · exact ⟨_, _, 1, by decide, by decide, by omega, by omega, by omega, by omega, hpp⟩
      · exact ⟨_, _, 2, by decide, by decide, by omega, by omega, by omega, by omega, hpp⟩
      · exact ⟨_, _, 3, by decide, by decide, by omega, by omega, by omega, by omega, hpp⟩
    obtain ⟨bc, br, kd, k1, k3, l1, l2, l3, l4, hpp⟩ := key
    refine ⟨h1, fun ed => ?_, fun ld => ?_⟩
    · rw [hpp, xt_par_d (by omega) ed] at hI2
      have e9 : 8 * br + bc = q := (nI_eq (by omega) (by omega)).mp hI2
      rw [← e9, show (8 * br + bc) % 8 = bc by omega, show (8 * br + bc) / 8 = br by omega]
      exact xt_lev_0 (fun i a b => ⟨Nat.lt_of_lt_of_le l1 (xt_lo_m (by omega) (by omega)), Nat.lt_of_lt_of_le l2 (xt_lo_m (by omega) (by omega))⟩)
    · have m1 := xt_lo_le (n := w) (k := L) (by omega)
      have m2 := xt_lo_le (n := h) (k := L) (by omega)
      obtain ⟨A, eA⟩ : ∃ A, bc / 2 + (if kd % 2 = 1 then xt_lo w (L + 1) else 0) = A := ⟨_, rfl⟩
      obtain ⟨B, eB⟩ : ∃ B, br / 2 + (if 2 ≤ kd then xt_lo h (L + 1) else 0) = B := ⟨_, rfl⟩
      by_cases z : A < xt_lo w L ∧ B < xt_lo h L
      · rw [hpp, xt_par_y (by omega) (by omega) eA eB z.1 z.2] at hI2
        have e9 : 8 * B + A = q := (nI_eq (by omega) (by omega)).mp hI2
        rw [← e9, show (8 * B + A) % 8 = A by omega, show (8 * B + A) / 8 = B by omega]
        refine xt_lev_at (by omega) (by omega) ?_ hd (fun i a b => ⟨Nat.lt_of_lt_of_le z.1 (xt_lo_m (by omega) (by omega)), Nat.lt_of_lt_of_le z.2 (xt_lo_m (by omega) (by omega))⟩)
        by_cases o : kd % 2 = 1
        · rw [if_pos o] at eA; exact Or.inl (by omega)
        · rw [if_pos (show 2 ≤ kd by omega)] at eB; exact Or.inr (by omega)
      · rw [hpp, xt_par_n (by omega) (by omega) eA eB z] at hI2
        exact absurd hI2.symm neg
/-- no place has four ancestors -/
theorem xt_pf_end {dp w h p : Nat} (hd : dp ≤ 3) (hw : w ≤ 8) (hh : h ≤ 8) (hp : xt_in w h p) : xt_anc (xt_pf dp w h) 4 p = none := by
  have hT := xt_pf_T (dp := dp) hd hw hh
  cases e4 : xt_anc (xt_pf dp w h) 4 p with
  | none => rfl
  | some p4 =>
    exfalso
    have st : ∀ j r, xt_anc (xt_pf dp w h) (j + 1) p = some r → ∃ q, xt_anc (xt_pf dp w h) j p = some q ∧ xt_pf dp w h q = some r := by
      intro j r e
      cases e0 : xt_anc (xt_pf dp w h) j p with
      | none => rw [xt_anc, e0] at e; cases e
      | some q => rw [xt_anc, e0] at e; exact ⟨q, rfl, e⟩
    obtain ⟨p3, a3, f3⟩ := st 3 p4 e4
    obtain ⟨p2, a2, f2⟩ := st 2 p3 a3
    obtain ⟨p1, a1, f1⟩ := st 1 p2 a2
    obtain ⟨p0, a0, f0⟩ := st 0 p1 a1
    have i3 := xt_pf_lev hd hw hh (xt_anc_in hT hp _ _ a3) f3
    have i2 := xt_pf_lev hd hw hh (xt_anc_in hT hp _ _ a2) f2
    have i1 := xt_pf_lev hd hw hh (xt_anc_in hT hp _ _ a1) f1
    have i0 := xt_pf_lev hd hw hh (xt_anc_in hT hp _ _ a0) f0
    have b3 := xt_lev_le (dp := dp) (w := w) (h := h) (x := p3 % 8) (y := p3 / 8) hd
    have b2 := xt_lev_le (dp := dp) (w := w) (h := h) (x := p2 % 8) (y := p2 / 8) hd
    have b1 := xt_lev_le (dp := dp) (w := w) (h := h) (x := p1 % 8) (y := p1 / 8) hd
    have b0 := xt_lev_le (dp := dp) (w := w) (h := h) (x := p0 % 8) (y := p0 / 8) hd
    omega
end XM8
