/-! NUMBERS: how great coefficients are; planes that are cut -/
section XM5
theorem xt_ab {x : Int32} : (if 0 ≤ x then x else 0 - x) = xt_abs x := by
  unfold xt_abs
  by_cases h : x < 0
  · rw [if_pos h, if_neg (Int32.not_le.mpr h), Int32.zero_sub]
  · rw [if_neg h, if_pos (Int32.not_lt.mp h)]
def xt_rI (a b : Int) (x : Int32) : Prop := a ≤ x.toInt ∧ x.toInt ≤ b
theorem xt_rI_w {a b c d : Int} {x : Int32} (h : xt_rI a b x) (h1 : c ≤ a) (h2 : b ≤ d) : xt_rI c d x := ⟨Int.le_trans h1 h.1, Int.le_trans h.2 h2⟩
theorem xt_rI_sub {a b : Int} {x y : Int32} (ha : -1000 ≤ a) (hb : b ≤ 1000) (hx : xt_rI a b x) (hy : xt_rI a b y) : xt_rI (a - b) (b - a) (x - y) := by
  unfold xt_rI at hx hy ⊢
  rw [Int32.toInt_sub, Int.bmod_eq_of_le (by omega) (by omega)]
  omega
theorem xt_rI_half {a b : Int} {x y : Int32} (ha : -1000 ≤ a) (hb : b ≤ 1000) (hx : xt_rI a b x) (hy : xt_rI a b y) : xt_rI a b (xt_half (x + y)) := by
  unfold xt_rI at hx hy ⊢
  unfold xt_half
  rw [pk_shr _ _ 1 (by decide), Int32.toInt_add, Int.bmod_eq_of_le (by omega) (by omega), Int.shiftRight_eq_div_pow]
  omega
theorem xt_sp_lo {n i : Nat} {g : Nat → Int32} {a b : Int} (ha : -1000 ≤ a) (hb : b ≤ 1000) (hg : ∀ j, j < n → xt_rI a b (g j)) (hi : i < xt_lo n 1) : xt_rI a b (xt_sp n g i) := by
  have e := xt_lo1 (n := n)
  unfold xt_sp
  rw [if_neg (by omega), if_pos hi]
  by_cases c : 2 * i + 1 < n
  · rw [if_pos c]; exact xt_rI_half ha hb (hg _ (by omega)) (hg _ c)
  · rw [if_neg c]; exact hg _ (by omega)
theorem xt_sp_hi {n i : Nat} {g : Nat → Int32} {a b : Int} (ha : -1000 ≤ a) (hb : b ≤ 1000) (hg : ∀ j, j < n → xt_rI a b (g j)) (hi : xt_lo n 1 ≤ i) (hn : i < n) : xt_rI (a - b) (b - a) (xt_sp n g i) := by
  have e := xt_lo1 (n := n)
  unfold xt_sp
  rw [if_neg (by omega), if_neg (by omega)]
  exact xt_rI_sub ha hb (hg _ (by omega)) (hg _ (by omega))
theorem xt_spA_o {c r x y : Nat} {f : Nat → Int32} (hx8 : x < 8) (h : ¬ (x < c ∧ y < r)) : xt_spA c r f (8 * y + x) = f (8 * y + x) := by
  have key : xt_R (xt_sp c) r f (8 * y + x) = f (8 * y + x) := by
    unfold xt_R
    by_cases z : (8 * y + x) / 8 < r
    · rw [if_pos z, show (8 * y + x) / 8 = y by omega, show (8 * y + x) % 8 = x by omega, xt_sp_o _ _ (by omega)]
    · rw [if_neg z]
  unfold xt_spA xt_C
  by_cases z : (8 * y + x) % 8 < c
  · rw [if_pos z, show (8 * y + x) / 8 = y by omega, show (8 * y + x) % 8 = x by omega, xt_sp_o _ _ (by omega)]
    exact key
  · rw [if_neg z]
    exact key
theorem xt_spA_r {c r x y : Nat} {f : Nat → Int32} (hc : c ≤ 8) (hf : ∀ x y, x < c → y < r → xt_rI 0 255 (f (8 * y + x))) (hx : x < c) (hy : y < r) :
    (x < xt_lo c 1 → y < xt_lo r 1 → xt_rI 0 255 (xt_spA c r f (8 * y + x))) ∧ xt_rI (-510) 510 (xt_spA c r f (8 * y + x)) := by
  have hR : ∀ y, y < r → xt_R (xt_sp c) r f (8 * y + x) = xt_sp c (fun x => f (8 * y + x)) x := by
    intro y hy
    unfold xt_R
    rw [if_pos (by omega), show (8 * y + x) / 8 = y by omega, show (8 * y + x) % 8 = x by omega]
  have e : xt_spA c r f (8 * y + x) = xt_sp r (fun y => xt_R (xt_sp c) r f (8 * y + x)) y := by
    unfold xt_spA xt_C
    rw [if_pos (by omega), show (8 * y + x) / 8 = y by omega, show (8 * y + x) % 8 = x by omega]
  rw [e]
  by_cases hxl : x < xt_lo c 1
  · have h1 : ∀ j, j < r → xt_rI 0 255 (xt_R (xt_sp c) r f (8 * j + x)) := fun j hj => by
      rw [hR j hj]; exact xt_sp_lo (by decide) (by decide) (fun i hi => hf i j hi hj) hxl
    by_cases hyl : y < xt_lo r 1
    · have h2 := xt_sp_lo (g := fun y => xt_R (xt_sp c) r f (8 * y + x)) (by decide) (by decide) h1 hyl
      exact ⟨fun _ _ => h2, xt_rI_w h2 (by decide) (by decide)⟩
    · have h2 := xt_sp_hi (g := fun y => xt_R (xt_sp c) r f (8 * y + x)) (by decide) (by decide) h1 (Nat.le_of_not_lt hyl) hy
      exact ⟨fun _ z => absurd z hyl, xt_rI_w h2 (by decide) (by decide)⟩
  · have h1 : ∀ j, j < r → xt_rI (-255) 255 (xt_R (xt_sp c) r f (8 * j + x)) := fun j hj => by
      rw [hR j hj]
      exact xt_rI_w (xt_sp_hi (by decide) (by decide) (fun i hi => hf i j hi hj) (Nat.le_of_not_lt hxl) hx) (by decide) (by decide)
    refine ⟨fun z => absurd z hxl, ?_⟩
    by_cases hyl : y < xt_lo r 1
    · exact xt_rI_w (xt_sp_lo (g := fun y => xt_R (xt_sp c) r f (8 * y + x)) (by decide) (by decide) h1 hyl) (by decide) (by decide)
    · exact xt_rI_w (xt_sp_hi (g := fun y => xt_R (xt_sp c) r f (8 * y + x)) (by decide) (by decide) h1 (Nat.le_of_not_lt hyl) hy) (by decide) (by decide)
theorem xt_co_r {w h : Nat} {f : Nat → Int32} (hw : w ≤ 8) (hf : ∀ x y, x < w → y < h → xt_rI 0 255 (f (8 * y + x))) : ∀ l, l ≤ 3 → ∀ x y, x < w → y < h → (x < xt_lo w l → y < xt_lo h l → xt_rI 0 255 (xt_co w h l f (8 * y + x))) ∧ xt_rI (-510) 510 (xt_co w h l f (8 * y + x)) := by
  intro l
  induction l with
  | zero => exact fun _ x y hx hy => ⟨fun _ _ => hf x y hx hy, xt_rI_w (hf x y hx hy) (by decide) (by decide)⟩
  | succ l ih =>
    intro hl x y hx hy
    have hW := xt_lo_le (n := w) (k := l) (by omega)
    have hH := xt_lo_le (n := h) (k := l) (by omega)
    have e1 : ∀ n, xt_lo (xt_lo n l) 1 = xt_lo n (l + 1) := fun n => (xt_lo1).symm.trans (xt_lo_s (by omega))
    show (_ → _ → xt_rI 0 255 (xt_spA (xt_lo w l) (xt_lo h l) (xt_co w h l f) (8 * y + x))) ∧ xt_rI (-510) 510 (xt_spA (xt_lo w l) (xt_lo h l) (xt_co w h l f) (8 * y + x))
    by_cases z : x < xt_lo w l ∧ y < xt_lo h l
    · have h9 := xt_spA_r (c := xt_lo w l) (r := xt_lo h l) (f := xt_co w h l f) (by omega) (fun x y a b => (ih (by omega) x y (by omega) (by omega)).1 a b) z.1 z.2
      rw [e1, e1] at h9
      exact h9
    · rw [xt_spA_o (by omega) z]
      have m1 := xt_lo_m (n := w) (i := l) (l := l + 1) (by omega) (by omega)
      have m2 := xt_lo_m (n := h) (i := l) (l := l + 1) (by omega) (by omega)
      exact ⟨fun a b => absurd ⟨Nat.lt_of_lt_of_le a m1, Nat.lt_of_lt_of_le b m2⟩ z, (ih (by omega) x y hx hy).2⟩
theorem xt_abs_r {x : Int32} (h : xt_rI (-510) 510 x) : ∃ a, a < 512 ∧ xt_abs x = nI a := by
  unfold xt_rI at h
  refine ⟨x.toInt.natAbs, by omega, ?_⟩
  apply Int32.toInt_inj.mp
  rw [nI_toInt (by omega)]
  unfold xt_abs
  by_cases z : x < 0
  · rw [if_pos z, Int32.toInt_neg, Int.bmod_eq_of_le (by omega) (by omega)]
    have h9 := Int32.lt_iff_toInt_lt.mp z
    rw [show (0 : Int32).toInt = 0 from by decide] at h9
    omega
  · rw [if_neg z]
    have h9 := Int32.le_iff_toInt_le.mp (Int32.not_lt.mp z)
    rw [show (0 : Int32).toInt = 0 from by decide] at h9
    omega
/-- planes that come -/
def xt_am (a : Int32) (m bo n : Nat) (k : Nat) : Int32 := xt_it (fun p s => if xt_lay m bo p < n then s + (a &&& nI (1 * 2 ^ p)) else s) k 0
theorem xt_am1 {a : Int32} {m bo n p : Nat} (h : xt_lay m bo p < n) : xt_am a m bo n (p + 1) = xt_am a m bo n p + (a &&& nI (1 * 2 ^ p)) := by
  show (if xt_lay m bo p < n then _ else _) = _
  rw [if_pos h]
  rfl
theorem xt_am0 {a : Int32} {m bo n p : Nat} (h : n ≤ xt_lay m bo p) : xt_am a m bo n (p + 1) = xt_am a m bo n p := by
  show (if xt_lay m bo p < n then _ else _) = _
  rw [if_neg (by omega)]
  rfl
def xt_ck (a k : Nat) : Int32 := xt_it (fun p s => if k ≤ p then s + (nI a &&& nI (1 * 2 ^ p)) else s) 9 0
theorem xt_ck_e {a k : Nat} (ha : a < 512) (hk : k < 10) : xt_ck a k = xt_cut (nI a) k := by
  have h := co_dec (N := 512) (P := fun a => (List.range 10).all (fun k => decide (xt_ck a k = xt_cut (nI a) k)) = true) (by decide +kernel) ha
  exact of_decide_eq_true (List.all_eq_true.mp h k (List.mem_range.mpr hk))
theorem xt_am_cut {A : Int32} {m bo n : Nat} (h : ∃ a, a < 512 ∧ A = nI a) (hbo : bo ≤ 8) (hn : n ≤ 9) : xt_am A m bo n 9 = xt_cut A (xt_mis m bo n) := by
  obtain ⟨a, ha, rfl⟩ := h
  rw [← xt_ck_e ha (by have := xt_mis_le (m := m) (bo := bo) (n := n); omega)]
  unfold xt_am xt_ck
  refine xt_it_c (fun p s hp => ?_)
  have e : xt_lay m bo p < n ↔ xt_mis m bo n ≤ p := by
    unfold xt_mis xt_lay
    by_cases z : n < 1
    · rw [if_pos z]; omega
    · rw [if_neg z]
      by_cases q : 0 < m
      · rw [if_pos q, if_pos q]; omega
      · rw [if_neg q, if_neg q]; omega
  by_cases z : xt_mis m bo n ≤ p
  · rw [if_pos z, if_pos (e.mpr z)]
  · rw [if_neg z, if_neg (fun q => z (e.mp q))]
/-- levels behind one are looked at: their number, less 1 -/
def xt_pm : Nat → Int32
  | 0 => -1
  | m + 1 => nI m
theorem xt_pm_i {m : Nat} : nI m + Int32.ofInt (-1) = xt_pm m := by
  cases m with
  | zero => decide
  | succ m => exact pk_m1 m
theorem xt_pm_s {m : Nat} : nI m - nI 1 = xt_pm m := by
  cases m with
  | zero => decide
  | succ m => exact nI_pred m
/-- a tile's places, row by row: those behind us are A's, the others B's -/
def xt_gd (w h : Nat) (g A B : Nat → Int32) (y x : Nat) : Prop := ∀ y9 x9, y9 < h → x9 < w → g (8 * y9 + x9) = if (y9 < y ∨ (y9 = y ∧ x9 < x)) then A (8 * y9 + x9) else B (8 * y9 + x9)
theorem xt_gd_0 {w h : Nat} {g A : Nat → Int32} : xt_gd w h g A g 0 0 := fun y9 x9 _ _ => by rw [if_neg (by omega)]
theorem xt_gd_s {w h y x : Nat} {g A B : Nat → Int32} {u : Int32} (hw : w ≤ 8) (hx : x < w) (hg : xt_gd w h g A B y x) (hu : u = A (8 * y + x)) : xt_gd w h (upd g (8 * y + x) u) A B y (x + 1) := by
  intro y9 x9 h1 h2
  by_cases e : y9 = y ∧ x9 = x
  · obtain ⟨rfl, rfl⟩ := e
    rw [xt_up_s, if_pos (by omega), hu]
  · rw [xt_up_n (by omega), hg y9 x9 h1 h2]
    by_cases z : y9 < y ∨ (y9 = y ∧ x9 < x)
    · rw [if_pos z, if_pos (by omega)]
    · rw [if_neg z, if_neg (by omega)]
theorem xt_gd_n {w h y x : Nat} {g A B : Nat → Int32} (hx : w ≤ x) (hg : xt_gd w h g A B y x) : xt_gd w h g A B (y + 1) 0 := by
  intro y9 x9 h1 h2
  rw [hg y9 x9 h1 h2]
  by_cases z : y9 < y ∨ (y9 = y ∧ x9 < x)
  · rw [if_pos z, if_pos (by omega)]
  · rw [if_neg z, if_neg (by omega)]
theorem xt_gd_e {w h y : Nat} {g A B : Nat → Int32} (hy : h ≤ y) (hg : xt_gd w h g A B y 0) {y9 x9 : Nat} (h1 : y9 < h) (h2 : x9 < w) : g (8 * y9 + x9) = A (8 * y9 + x9) := by
  rw [hg y9 x9 h1 h2, if_pos (by omega)]
theorem xt_gd_b {w h y x : Nat} {g A B : Nat → Int32} (hg : xt_gd w h g A B y x) (h1 : y < h) (h2 : x < w) : g (8 * y + x) = B (8 * y + x) := by
  rw [hg y x h1 h2, if_neg (by omega)]
end XM5
