/-! THE MODEL: masks that are split tell of squares -/
section XM3
def xt_z1 (x : Int32) : Prop := x = nI 0 ∨ x = nI 1
def xt_m01 (w h : Nat) (g : Nat → Int32) : Prop := ∀ p, xt_in w h p → xt_z1 (g p)
theorem xt_mo_01 {a b : Int32} : xt_z1 (xt_mo a b) := by
  unfold xt_mo
  split
  · exact Or.inl rfl
  · exact Or.inr rfl
theorem xt_mo_i {a b : Int32} (ha : xt_z1 a) (hb : xt_z1 b) : xt_mo a b = nI 1 ↔ a = nI 1 ∨ b = nI 1 := by
  rcases ha with rfl | rfl <;> rcases hb with rfl | rfl <;> decide
theorem xt_msp_o {n : Nat} (g : Nat → Int32) (i : Nat) (h : n ≤ i) : xt_msp n g i = g i := by unfold xt_msp; exact if_pos h
theorem xt_msp_01 {n i : Nat} {g : Nat → Int32} (hl : ∀ j, j < n → xt_z1 (g j)) (hi : xt_z1 (g i)) : xt_z1 (xt_msp n g i) := by
  unfold xt_msp
  by_cases a : n ≤ i
  · rw [if_pos a]; exact hi
  rw [if_neg a]
  by_cases b : i < xt_lo n 1
  · rw [if_pos b]
    by_cases c : 2 * i + 1 < n
    · rw [if_pos c]; exact xt_mo_01
    · rw [if_neg c]
      have e := xt_lo1 (n := n)
      exact hl _ (by omega)
  · rw [if_neg b]; exact xt_mo_01
theorem xt_msp_i {n i : Nat} {g : Nat → Int32} (hl : ∀ j, j < n → xt_z1 (g j)) (hi : i < n) : xt_msp n g i = nI 1 ↔ ∃ j, j < n ∧ j / 2 = (if i < xt_lo n 1 then i else i - xt_lo n 1) ∧ g j = nI 1 := by
  have e := xt_lo1 (n := n)
  unfold xt_msp
  rw [if_neg (by omega)]
  by_cases a : i < xt_lo n 1
  · rw [if_pos a, if_pos a]
    by_cases b : 2 * i + 1 < n
    · rw [if_pos b, xt_mo_i (hl _ (by omega)) (hl _ b)]
      constructor
      · rintro (z | z)
        · exact ⟨2 * i, by omega, by omega, z⟩
        · exact ⟨2 * i + 1, b, by omega, z⟩
      · rintro ⟨j, h1, h2, h3⟩
        have h4 : j = 2 * i ∨ j = 2 * i + 1 := by omega
        rcases h4 with rfl | rfl
        · exact Or.inl h3
        · exact Or.inr h3
    · rw [if_neg b]
      constructor
      · intro z; exact ⟨2 * i, by omega, by omega, z⟩
      · rintro ⟨j, h1, h2, h3⟩
        obtain rfl : j = 2 * i := by omega
        exact h3
  · rw [if_neg a, if_neg a, xt_mo_i (hl _ (by omega)) (hl _ (by omega))]
    constructor
    · rintro (z | z)
      · exact ⟨2 * (i - xt_lo n 1), by omega, by omega, z⟩
      · exact ⟨2 * (i - xt_lo n 1) + 1, by omega, by omega, z⟩
    · rintro ⟨j, h1, h2, h3⟩
      have h4 : j = 2 * (i - xt_lo n 1) ∨ j = 2 * (i - xt_lo n 1) + 1 := by omega
      rcases h4 with rfl | rfl
      · exact Or.inl h3
      · exact Or.inr h3
def xt_msA (c r : Nat) (f : Nat → Int32) : Nat → Int32 := xt_C (xt_msp r) c (xt_R (xt_msp c) r f)
def xt_mco (w h d : Nat) (f : Nat → Int32) : Nat → Int32 := xt_it (fun l f => xt_msA (xt_lo w l) (xt_lo h l) f) d f
theorem xt_R_01 {w h n y : Nat} {g : Nat → Int32} (hn : n ≤ w) (hw : w ≤ 8) (hg : xt_m01 w h g) : xt_m01 w h (xt_R (xt_msp n) y g) := by
  intro p hp
  obtain ⟨h1, h2⟩ := hp
  unfold xt_R
  by_cases z : p / 8 < y
  · rw [if_pos z]
    exact xt_msp_01 (fun j hj => hg _ ⟨by omega, by omega⟩) (hg _ ⟨by omega, by omega⟩)
  · rw [if_neg z]; exact hg p ⟨h1, h2⟩
theorem xt_C_01 {w h n x : Nat} {g : Nat → Int32} (hn : n ≤ h) (hw : w ≤ 8) (hg : xt_m01 w h g) : xt_m01 w h (xt_C (xt_msp n) x g) := by
  intro p hp
  obtain ⟨h1, h2⟩ := hp
  unfold xt_C
  by_cases z : p % 8 < x
  · rw [if_pos z]
    exact xt_msp_01 (fun j hj => hg _ ⟨by omega, by omega⟩) (hg _ ⟨by omega, by omega⟩)
  · rw [if_neg z]; exact hg p ⟨h1, h2⟩
theorem xt_mco_01 {w h d : Nat} {f : Nat → Int32} (hw : w ≤ 8) (hd : d ≤ 4) (hf : xt_m01 w h f) : xt_m01 w h (xt_mco w h d f) := by
  induction d with
  | zero => exact hf
  | succ d ih => exact xt_C_01 (xt_lo_le (by omega)) hw (xt_R_01 (xt_lo_le (by omega)) hw (ih (by omega)))
theorem xt_msA_i {w h c r x y : Nat} {f : Nat → Int32} (hw : w ≤ 8) (hc : c ≤ w) (hr : r ≤ h) (hf : xt_m01 w h f) (hx : x < c) (hy : y < r) : xt_msA c r f (8 * y + x) = nI 1 ↔ ∃ j i, j < r ∧ i < c ∧ j / 2 = (if y < xt_lo r 1 then y else y - xt_lo r 1) ∧ i / 2 = (if x < xt_lo c 1 then x else x - xt_lo c 1) ∧ f (8 * j + i) = nI 1 := by
  have hR := xt_R_01 (y := r) hc hw hf
  unfold xt_msA xt_C
  rw [if_pos (by omega), show (8 * y + x) / 8 = y by omega, show (8 * y + x) % 8 = x by omega, xt_msp_i (fun j hj => hR _ ⟨by omega, by omega⟩) hy]
  have key : ∀ j, j < r → (xt_R (xt_msp c) r f (8 * j + x) = nI 1 ↔ ∃ i, i < c ∧ i / 2 = (if x < xt_lo c 1 then x else x - xt_lo c 1) ∧ f (8 * j + i) = nI 1) := by
    intro j hj
    unfold xt_R
    rw [if_pos (by omega), show (8 * j + x) / 8 = j by omega, show (8 * j + x) % 8 = x by omega, xt_msp_i (fun i hi => hf _ ⟨by omega, by omega⟩) hx]
  constructor
  · rintro ⟨j, h1, h2, h3⟩
    obtain ⟨i, g1, g2, g3⟩ := (key j h1).mp h3
    exact ⟨j, i, h1, g1, h2, g2, g3⟩
  · rintro ⟨j, i, h1, g1, h2, g2, g3⟩
    exact ⟨j, h1, h2, (key j h1).mpr ⟨i, g1, g2, g3⟩⟩
theorem xt_msA_o {c r x y : Nat} {f : Nat → Int32} (hx8 : x < 8) (h : ¬ (x < c ∧ y < r)) : xt_msA c r f (8 * y + x) = f (8 * y + x) := by
  have key : ∀ (_ : ¬ (x < c ∧ y < r)), xt_R (xt_msp c) r f (8 * y + x) = f (8 * y + x) := by
    intro h
    unfold xt_R
    by_cases z : (8 * y + x) / 8 < r
    · rw [if_pos z, show (8 * y + x) / 8 = y by omega, show (8 * y + x) % 8 = x by omega, xt_msp_o _ _ (by omega)]
    · rw [if_neg z]
  unfold xt_msA xt_C
  by_cases z : (8 * y + x) % 8 < c
  · rw [if_pos z, show (8 * y + x) / 8 = y by omega, show (8 * y + x) % 8 = x by omega, xt_msp_o _ _ (by omega)]
    exact key h
  · rw [if_neg z]
    exact key h
theorem xt_lo_m {n i l : Nat} (hi : i ≤ l) (hl : l ≤ 4) : xt_lo n l ≤ xt_lo n i := by
  induction l with
  | zero => rw [show i = 0 by omega]; exact Nat.le_refl _
  | succ l ih =>
    by_cases e : i = l + 1
    · rw [e]; exact Nat.le_refl _
    · have h1 := ih (by omega) (by omega)
      have h2 := xt_lo_s (n := n) (k := l) (by omega)
      omega
theorem xt_lo_d {n i l : Nat} (hl : l ≤ 3) (hi : i < n) : i / 2 ^ l < xt_lo n l := by
  match l, hl with
  | 0, _ => unfold xt_lo; simp only [Nat.reducePow]; omega
  | 1, _ => unfold xt_lo; simp only [Nat.reducePow]; omega
  | 2, _ => unfold xt_lo; simp only [Nat.reducePow]; omega
  | 3, _ => unfold xt_lo; simp only [Nat.reducePow]; omega
theorem xt_dv2 {j b q : Nat} (hq : 0 < q) : j / q = b ↔ b * q ≤ j ∧ j < (b + 1) * q := by
  constructor
  · rintro rfl
    have h1 := Nat.div_add_mod j q
    have h2 := Nat.mod_lt j hq
    rw [Nat.add_mul, Nat.mul_comm (j / q) q]
    omega
  · rintro ⟨h1, h2⟩
    exact Nat.div_eq_of_lt_le h1 h2
section MS
variable {k : Nat → Int32} {c lf tp w h l x y : Nat}
def xt_sqr (k : Nat → Int32) (c lf tp w h q bc br : Nat) : Prop := ∃ j i, j < h ∧ i < w ∧ j / 2 ^ q = br ∧ i / 2 ^ q = bc ∧ k ((tp + j) * c + (lf + i)) = nI 1
theorem xt_mk_i {q bc br : Nat} : xt_mk k c lf tp w h q bc br ↔ xt_sqr k c lf tp w h q bc br := by
  have hq : 0 < 2 ^ q := Nat.two_pow_pos q
  unfold xt_mk xt_sqr
  constructor
  · rintro ⟨j, i, h1, h2, h3, h4, h5⟩
    exact ⟨j, i, by omega, by omega, (xt_dv2 hq).mpr ⟨h1, by omega⟩, (xt_dv2 hq).mpr ⟨h3, by omega⟩, h5⟩
  · rintro ⟨j, i, h1, h2, h3, h4, h5⟩
    have a := (xt_dv2 hq).mp h3
    have b := (xt_dv2 hq).mp h4
    exact ⟨j, i, a.1, by omega, b.1, by omega, h5⟩
theorem xt_ms_in (hl : l ≤ 3) (hx : x < xt_lo w l) (hy : y < xt_lo h l) : xt_ms k c lf tp w h l x y ↔ xt_sqr k c lf tp w h l x y := by
  have e : xt_lev l w h x y = 0 := xt_lev_0 (fun i h1 h2 => ⟨Nat.lt_of_lt_of_le hx (xt_lo_m h2 (by omega)), Nat.lt_of_lt_of_le hy (xt_lo_m h2 (by omega))⟩)
  unfold xt_ms
  rw [e, xt_mk_i]
  exact Iff.rfl
theorem xt_ms_st (hl : l ≤ 2) (hx : x < xt_lo w l) (hy : y < xt_lo h l) : xt_ms k c lf tp w h (l + 1) x y ↔ xt_sqr k c lf tp w h (l + 1) (if x < xt_lo w (l + 1) then x else x - xt_lo w (l + 1)) (if y < xt_lo h (l + 1) then y else y - xt_lo h (l + 1)) := by
  by_cases z : x < xt_lo w (l + 1) ∧ y < xt_lo h (l + 1)
  · rw [if_pos z.1, if_pos z.2]
    exact xt_ms_in (by omega) z.1 z.2
  · have e : xt_lev (l + 1) w h x y = l + 1 := xt_lev_at (by omega) (by omega) (by omega) (by omega) (fun i h1 h2 => ⟨Nat.lt_of_lt_of_le hx (xt_lo_m (by omega) (by omega)), Nat.lt_of_lt_of_le hy (xt_lo_m (by omega) (by omega))⟩)
    have bx : ∀ {n u : Nat}, xt_bx n (l + 1) u = (if u < xt_lo n (l + 1) then u else u - xt_lo n (l + 1)) := by
      intro n u
      unfold xt_bx
      by_cases a : u < xt_lo n (l + 1)
      · rw [if_pos a, if_neg (by omega)]
      · rw [if_neg a, if_pos (by omega)]
    unfold xt_ms
    rw [e, bx, bx, xt_mk_i]
    exact Iff.rfl
theorem xt_ms_out (hl : l ≤ 2) (hx : x < w) (hy : y < h) (z : ¬ (x < xt_lo w l ∧ y < xt_lo h l)) : xt_ms k c lf tp w h (l + 1) x y ↔ xt_ms k c lf tp w h l x y := by
  rcases xt_lev_sp (dp := l) (w := w) (h := h) (x := x) (y := y) (by omega) with ⟨h1, h2⟩ | ⟨h1, h2, h3, h4⟩
  · exfalso
    by_cases e : l = 0
    · rw [e, xt_lo_0, xt_lo_0] at z; exact z ⟨hx, hy⟩
    · exact z (h2 l (by omega) (Nat.le_refl _))
  · have e := xt_lev_at (dp := l + 1) (w := w) (h := h) (x := x) (y := y) h1 (by omega) h3 (by omega) h4
    unfold xt_ms
    rw [e]
    have d1 : xt_dn (l + 1) (xt_lev l w h x y) = xt_dn l (xt_lev l w h x y) := by
      unfold xt_dn
      rw [if_neg (by omega), if_neg (by omega)]
    rw [d1]
theorem xt_mco_i {f : Nat → Int32} (hw : w ≤ 8) (hf : ∀ x y, x < w → y < h → f (8 * y + x) = k ((tp + y) * c + (lf + x))) (h01 : xt_m01 w h f) : ∀ l, l ≤ 3 → ∀ x y, x < w → y < h → (xt_mco w h l f (8 * y + x) = nI 1 ↔ xt_ms k c lf tp w h l x y) := by
  intro l
  induction l with
  | zero =>
    intro _ x y hx hy
    rw [xt_ms_in (by omega) (by rw [xt_lo_0]; exact hx) (by rw [xt_lo_0]; exact hy)]
    show f (8 * y + x) = nI 1 ↔ _
    rw [hf x y hx hy]
    unfold xt_sqr
    simp only [Nat.pow_zero, Nat.div_one]
    constructor
    · intro e; exact ⟨y, x, hy, hx, rfl, rfl, e⟩
    · rintro ⟨j, i, -, -, rfl, rfl, e⟩; exact e
  | succ l ih =>
    intro hl x y hx hy
    have hW := xt_lo_le (n := w) (k := l) (by omega)
    have hH := xt_lo_le (n := h) (k := l) (by omega)
    show xt_msA (xt_lo w l) (xt_lo h l) (xt_mco w h l f) (8 * y + x) = nI 1 ↔ _
    by_cases z : x < xt_lo w l ∧ y < xt_lo h l
    · have e1 : ∀ n, xt_lo (xt_lo n l) 1 = xt_lo n (l + 1) := fun n => (xt_lo1).symm.trans (xt_lo_s (by omega))
      rw [xt_msA_i hw hW hH (xt_mco_01 hw (by omega) h01) z.1 z.2, xt_ms_st (by omega) z.1 z.2, e1, e1]
      generalize (if x < xt_lo w (l + 1) then x else x - xt_lo w (l + 1)) = A
      generalize (if y < xt_lo h (l + 1) then y else y - xt_lo h (l + 1)) = B
      have e2 : ∀ i, i / 2 ^ (l + 1) = i / 2 ^ l / 2 := fun i => by rw [Nat.pow_succ, Nat.div_div_eq_div_mul]
      constructor
      · rintro ⟨j, i, h1, h2, h3, h4, h5⟩
        obtain ⟨j', i', g1, g2, rfl, rfl, g5⟩ := (xt_ms_in (by omega) h2 h1).mp ((ih (by omega) i j (by omega) (by omega)).mp h5)
        exact ⟨j', i', g1, g2, by rw [e2]; exact h3, by rw [e2]; exact h4, g5⟩
      · rintro ⟨j', i', g1, g2, g3, g4, g5⟩
        rw [e2] at g3 g4
        have q1 := xt_lo_d (l := l) (by omega) g1
        have q2 := xt_lo_d (l := l) (by omega) g2
        refine ⟨j' / 2 ^ l, i' / 2 ^ l, q1, q2, g3, g4, ?_⟩
        exact (ih (by omega) _ _ (by omega) (by omega)).mpr ((xt_ms_in (by omega) q2 q1).mpr ⟨j', i', g1, g2, rfl, rfl, g5⟩)
    · rw [xt_msA_o (by omega) z, xt_ms_out (by omega) hx hy z]
      exact ih (by omega) x y hx hy
theorem xt_mco_e {f : Nat → Int32} (hw : w ≤ 8) (hl : l ≤ 3) (hf : ∀ x y, x < w → y < h → f (8 * y + x) = k ((tp + y) * c + (lf + x))) (h01 : xt_m01 w h f) (hx : x < w) (hy : y < h) : xt_mco w h l f (8 * y + x) = nI (xt_n (xt_ms k c lf tp w h l x y)) := by
  have h1 := xt_mco_i hw hf h01 l hl x y hx hy
  have h2 := xt_mco_01 (d := l) hw (by omega) h01 (8 * y + x) ⟨by omega, by omega⟩
  by_cases z : xt_ms k c lf tp w h l x y
  · rw [xt_n1 z]; exact h1.mpr z
  · rw [xt_n0 z]; exact h2.resolve_right (fun e => z (h1.mp e))
end MS
end XM3
