/-! THE PLAN; WHAT A TILE OF A PICTURE IS -/
section XC17
variable {E : xt_Ev} {l : Launch} {S : xt_St}
def xt_nx (ly : Nat → Nat) (df cs : Nat → Int32) (left : Int32) (t : Nat) (q : Option Nat × Int32) : Option Nat × Int32 := if ly t < 9 ∧ ¬ left < cs t ∧ q.2 < df t then (some t, df t) else q
theorem xt_nx1 {ly : Nat → Nat} {df cs : Nat → Int32} {left : Int32} {t : Nat} {q : Option Nat × Int32} (h : ly t < 9 ∧ ¬ left < cs t ∧ q.2 < df t) : xt_nx ly df cs left t q = (some t, df t) := if_pos h
theorem xt_nx0 {ly : Nat → Nat} {df cs : Nat → Int32} {left : Int32} {t : Nat} {q : Option Nat × Int32} (h : ¬ (ly t < 9 ∧ ¬ left < cs t ∧ q.2 < df t)) : xt_nx ly df cs left t q = q := if_neg h
theorem xt_it_c {α : Type} {f f' : Nat → α → α} {n : Nat} (h : ∀ k s, k < n → f k s = f' k s) {s : α} : xt_it f n s = xt_it f' n s := by
  induction n with
  | zero => rfl
  | succ n ih => simp only [xt_it]; rw [ih (fun k s hk => h k s (by omega)), h n _ (by omega)]
theorem xt_S2_c {g g' : Nat → Nat → Int32} {w h : Nat} (e : ∀ y x, y < h → x < w → g x y = g' x y) : xt_S2 g w h = xt_S2 g' w h := by
  unfold xt_S2
  exact xt_it_c (fun y s hy => xt_it_c (fun x s hx => by rw [e y x hy hx]))
theorem xt_mx2_c {g g' : Nat → Nat → Int32} {w h : Nat} (e : ∀ y x, y < h → x < w → g x y = g' x y) : xt_mx2 g w h = xt_mx2 g' w h := by
  unfold xt_mx2
  exact xt_it_c (fun y s hy => xt_it_c (fun x s hx => by rw [e y x hy hx]))
theorem xt_N2_c {P P' : Nat → Nat → Prop} {w h : Nat} (e : ∀ y x, y < h → x < w → (P x y ↔ P' x y)) : xt_N2 P w h = xt_N2 P' w h := by
  unfold xt_N2
  exact xt_it_c (fun y s hy => xt_it_c (fun x s hx => by rw [propext (e y x hy hx)]))
theorem xt_DJ_c {co co' : Nat → Int32} {mm mm' : Nat → Nat} {w h dp bo n : Nat} (hw : w ≤ 8) (hd : dp ≤ 3) (e : ∀ p, xt_in w h p → co p = co' p ∧ mm p = mm' p) : ∀ p, xt_in w h p → xt_DJ co mm w h dp bo n p = xt_DJ co' mm' w h dp bo n p := by
  intro p hp
  unfold xt_DJ
  have ha : xt_ag w h (fun p => xt_dv (co p) (xt_mis (mm p) bo n)) (fun p => xt_dv (co' p) (xt_mis (mm' p) bo n)) := by
    intro q h1 h2
    show xt_dv (co q) (xt_mis (mm q) bo n) = xt_dv (co' q) (xt_mis (mm' q) bo n)
    rw [(e q ⟨h1, h2⟩).1, (e q ⟨h1, h2⟩).2]
  exact congrArg xt_cl (xt_jn_ag (z := 0) (d := dp) hw (by omega) ha p hp.1 hp.2)
/-- tile t of the picture (c, r, sd, levels pl, v, k): its coefficients, and the places' masks as 0 and 1 -/
def xt_tD (c r sd pl t : Nat) : Nat := xt_dep pl (xt_gw c sd t) (xt_gh c r sd t)
def xt_tV (c sd t : Nat) (v : Nat → Int32) : Nat → Int32 := xt_V v c (xt_gl c sd t) (xt_gt c sd t)
def xt_tC (c r sd pl t : Nat) (v : Nat → Int32) : Nat → Int32 := xt_co (xt_gw c sd t) (xt_gh c r sd t) (xt_tD c r sd pl t) (xt_tV c sd t v)
noncomputable def xt_tM (c r sd pl t : Nat) (k : Nat → Int32) : Nat → Nat := fun p => xt_n (xt_ms k c (xt_gl c sd t) (xt_gt c sd t) (xt_gw c sd t) (xt_gh c r sd t) (xt_tD c r sd pl t) (p % 8) (p / 8))
noncomputable def xt_tJ (c r sd pl pb t n : Nat) (v k : Nat → Int32) : Nat → Int32 := xt_DJ (xt_tC c r sd pl t v) (xt_tM c r sd pl t k) (xt_gw c sd t) (xt_gh c r sd t) (xt_tD c r sd pl t) pb n
noncomputable def xt_tW (c r sd pl pb t n : Nat) (v k : Nat → Int32) : Int32 := xt_mx2 (fun x y => xt_abs (xt_tJ c r sd pl pb t n v k (8 * y + x) - xt_tV c sd t v (8 * y + x))) (xt_gw c sd t) (xt_gh c r sd t)
noncomputable def xt_tB (c r sd pl pb t : Nat) (ly : Int32) (v k : Nat → Int32) : Int32 := xt_S2 (fun x y => xt_bits (xt_abs (xt_tC c r sd pl t v (8 * y + x))) ly (xt_tM c r sd pl t k (8 * y + x)) pb) (xt_gw c sd t) (xt_gh c r sd t)
/-- a tile at work that is tile t of the picture -/
def xt_TL (S : xt_St) (c r sd pl pb t : Nat) (v k : Nat → Int32) : Prop := xt_Tl S v k c (xt_gl c sd t) (xt_gt c sd t) (xt_gw c sd t) (xt_gh c r sd t) (xt_tD c r sd pl t) pb
section TLX
variable {c r sd pl pb t : Nat} {v k : Nat → Int32}
theorem xt_TL_n (h : xt_TL S c r sd pl pb t v k) : xt_Tn S (xt_gl c sd t) (xt_gt c sd t) (xt_gw c sd t) (xt_gh c r sd t) (xt_tD c r sd pl t) pb := h.1
theorem xt_TL_m (h : xt_TL S c r sd pl pb t v k) : ∀ y x, y < xt_gh c r sd t → x < xt_gw c sd t → S.2.1 38 (8 * y + x) = nI (xt_tM c r sd pl t k (8 * y + x)) ∧ xt_tM c r sd pl t k (8 * y + x) ≤ 1 := by
  intro y x hy hx
  have hw := h.1.2.2.2.2.2.2.1
  refine ⟨?_, xt_n_le _⟩
  rw [(h.2 y x hy hx).2.2.2.2, xt_bn]
  unfold xt_tM
  rw [show (8 * y + x) % 8 = x by omega, show (8 * y + x) / 8 = y by omega]
theorem xt_TL_c (h : xt_TL S c r sd pl pb t v k) : ∀ p, xt_in (xt_gw c sd t) (xt_gh c r sd t) p → S.2.1 35 p = xt_tC c r sd pl t v p ∧ S.2.1 34 p = xt_tV c sd t v p := by
  intro p hp
  have h9 := h.2 (p / 8) (p % 8) hp.2 hp.1
  rw [show 8 * (p / 8) + p % 8 = p by omega] at h9
  exact ⟨h9.2.1, h9.1⟩
theorem xt_TL_J (h : xt_TL S c r sd pl pb t v k) {n : Nat} : ∀ p, xt_in (xt_gw c sd t) (xt_gh c r sd t) p → xt_DJ (S.2.1 35) (xt_tM c r sd pl t k) (xt_gw c sd t) (xt_gh c r sd t) (xt_tD c r sd pl t) pb n p = xt_tJ c r sd pl pb t n v k p :=
  xt_DJ_c h.1.2.2.2.2.2.2.1 h.1.2.2.2.2.2.2.2.2.1 (fun p hp => ⟨(xt_TL_c h p hp).1, rfl⟩)
theorem xt_TL_W (h : xt_TL S c r sd pl pb t v k) {n : Nat} : xt_mx2 (fun x y => xt_abs (xt_DJ (S.2.1 35) (xt_tM c r sd pl t k) (xt_gw c sd t) (xt_gh c r sd t) (xt_tD c r sd pl t) pb n (8 * y + x) - S.2.1 34 (8 * y + x))) (xt_gw c sd t) (xt_gh c r sd t) = xt_tW c r sd pl pb t n v k := by
  have hw := h.1.2.2.2.2.2.2.1
  exact xt_mx2_c (fun y x hy hx => by rw [xt_TL_J h _ ⟨by omega, by omega⟩, (xt_TL_c h _ ⟨by omega, by omega⟩).2])
theorem xt_TL_B (h : xt_TL S c r sd pl pb t v k) {ly : Int32} : xt_S2 (fun x y => xt_bits (xt_abs (S.2.1 35 (8 * y + x))) ly (xt_tM c r sd pl t k (8 * y + x)) pb) (xt_gw c sd t) (xt_gh c r sd t) = xt_tB c r sd pl pb t ly v k := by
  have hw := h.1.2.2.2.2.2.2.1
  exact xt_S2_c (fun y x hy hx => by rw [(xt_TL_c h _ ⟨by omega, by omega⟩).1])
theorem xt_TL_k {T : xt_St} (h : xt_TL S c r sd pl pb t v k) (h1 : T.1 33 = S.1 33) (h2 : ∀ i, 34 ≤ i → i ≤ 38 → T.2.1 i = S.2.1 i) : xt_TL T c r sd pl pb t v k := by
  unfold xt_TL xt_Tl xt_Tn at h ⊢
  rw [h1, h2 34 (by decide) (by decide), h2 35 (by decide) (by decide), h2 36 (by decide) (by decide), h2 37 (by decide) (by decide), h2 38 (by decide) (by decide)]
  exact h
end TLX
end XC17
