/-! what the tiler's cells and the model's cells hold, in one tongue -/
section XL1
abbrev xt_As : Type := (Nat → Int32) × List (Nat → Int32) × Option (Nat → Int32) × Nat × (Nat → Int32) × Option Nat × Option (Nat × Int32) × Option (Nat × (Nat → Int32))
abbrev xt_As.pic (A : xt_As) : Nat → Int32 := A.1
abbrev xt_As.hist (A : xt_As) : List (Nat → Int32) := A.2.1
abbrev xt_As.snap (A : xt_As) : Option (Nat → Int32) := A.2.2.1
abbrev xt_As.n (A : xt_As) : Nat := A.2.2.2.1
abbrev xt_As.inp (A : xt_As) : Nat → Int32 := A.2.2.2.2.1
abbrev xt_As.fault (A : xt_As) : Option Nat := A.2.2.2.2.2.1
abbrev xt_As.ref (A : xt_As) : Option (Nat × Int32) := A.2.2.2.2.2.2.1
abbrev xt_As.plan (A : xt_As) : Option (Nat × (Nat → Int32)) := A.2.2.2.2.2.2.2
abbrev xt_mk9 (a : Nat → Int32) (b : List (Nat → Int32)) (c : Option (Nat → Int32)) (d : Nat) (e : Nat → Int32) (f : Option Nat) (g : Option (Nat × Int32)) (h : Option (Nat × (Nat → Int32))) : xt_As := (a, b, c, d, e, f, g, h)
def xt_pkp (S : xt_St) (p : Nat) : Nat → Int32 := fun i => if i < 5 then S.1 p i else if i < 261 then S.2.1 (p + 1) (i - 5) else S.2.1 (p + 2) (i - 261)
def xt_e5 (f g : Nat → Int32) : Prop := ∀ j, j < 517 → f j = g j
def xt_Gp (f : Nat → Int32) (c r sd lv bo : Nat) : Prop := xt_Mg f c r sd lv bo ∧ (∀ j, j < 256 → ∃ m, m ≤ 255 ∧ f (5 + j) = nI m) ∧ ∀ j, j < 256 → f (261 + j) = nI 0 ∨ f (261 + j) = nI 1
def xt_Gv (f : Nat → Int32) : Prop := ∃ c r sd lv bo, xt_Gp f c r sd lv bo
def xt_sl (nx k i : Nat) : Nat := 9 + 3 * ((nx + 8 - k + i) % 8)
def xt_CH (S : xt_St) (h : List (Nat → Int32)) (nx : Nat) : Prop := xt_Hi S nx h.length ∧ ∀ i f, h[i]? = some f → xt_e5 (xt_pkp S (xt_sl nx h.length i)) f
def xt_Cs (S : xt_St) : Option (Nat → Int32) → Prop
  | none => S.1 0 2 = nI 0
  | some f => S.1 0 2 = nI 1 ∧ xt_e5 (xt_pkp S 4) f
def xt_Cf (x : Int32) : Option Nat → Prop
  | none => x = -1
  | some m => x = nI m ∧ m < 1000
def xt_Cr (no x y : Int32) : Option (Nat × Int32) → Prop
  | none => x = no
  | some (w, z) => x = nI w ∧ 0 < w ∧ w < 1000 ∧ y = z
def xt_Cl (x : Int32) (g : Nat → Int32) : Option (Nat × (Nat → Int32)) → Prop
  | none => x = -1
  | some (n, f) => x = nI n ∧ 0 < n ∧ n ≤ 64 ∧ ∀ t, t < n → g t = f t
def xt_Ci (x : Int32) (g : Nat → Int32) (n : Nat) (f : Nat → Int32) : Prop := x = nI n ∧ n ≤ 60 ∧ ∀ j, j < n → g j = f j
def xt_CR (S : xt_St) (A : xt_As) : Prop := xt_e5 (xt_pkp S 1) A.pic ∧ (∃ nx, xt_CH S A.hist nx) ∧ xt_Cs S A.snap ∧ xt_Ci (S.1 46 1) (S.2.1 47) A.n A.inp ∧ xt_Cf (S.1 0 7) A.fault ∧ xt_Cr (-1) (S.1 0 8) (S.1 0 9) A.ref ∧ xt_Cl (S.1 42 0) (S.2.1 43) A.plan
def xt_Ms9 (S : xt_St) : Option (Nat → Int32) → Prop
  | none => S.1 49 5 = nI 0
  | some f => S.1 49 5 = nI 1 ∧ xt_e5 (S.2.1 52) f
def xt_MR (S : xt_St) (A : xt_As) : Prop := xt_e5 (S.2.1 50) A.pic ∧ (S.1 49 3 = nI A.hist.length ∧ A.hist.length ≤ 8 ∧ ∀ i f, A.hist[i]? = some f → xt_e5 (fun j => S.2.1 51 (517 * i + j)) f) ∧ xt_Ms9 S A.snap ∧ xt_Ci (S.1 49 8) (S.2.1 54) A.n A.inp ∧ xt_Cf (S.1 49 10) A.fault ∧ xt_Cr (nI 0) (S.1 49 11) (S.1 49 12) A.ref ∧ xt_Cl (S.1 49 13) (S.2.1 55) A.plan
def xt_GA (A : xt_As) : Prop := xt_Gv A.pic ∧ (∀ f, f ∈ A.hist → xt_Gv f) ∧ ∀ f, A.snap = some f → xt_Gv f
def xt_Inv (S : xt_St) : Prop := ∃ A, xt_GA A ∧ xt_CR S A ∧ xt_MR S A
theorem xt_e5_tr {f g h : Nat → Int32} (h1 : xt_e5 f g) (h2 : xt_e5 g h) : xt_e5 f h := fun j hj => (h1 j hj).trans (h2 j hj)
theorem xt_e5_sy {f g : Nat → Int32} (h1 : xt_e5 f g) : xt_e5 g f := fun j hj => (h1 j hj).symm
theorem xt_e5_rf {f : Nat → Int32} : xt_e5 f f := fun _ _ => rfl
theorem xt_Gp_e5 {f g : Nat → Int32} {c r sd lv bo : Nat} (h : xt_Gp f c r sd lv bo) (e : xt_e5 g f) : xt_Gp g c r sd lv bo := by
  obtain ⟨⟨a0, a1, a2, a3, a4, a5⟩, b, d⟩ := h
  refine ⟨⟨by rw [e 0 (by decide)]; exact a0, by rw [e 1 (by decide)]; exact a1, by rw [e 2 (by decide)]; exact a2, by rw [e 3 (by decide)]; exact a3, by rw [e 4 (by decide)]; exact a4, a5⟩, fun j hj => ?_, fun j hj => ?_⟩
  · rw [e _ (by omega)]; exact b j hj
  · rw [e _ (by omega)]; exact d j hj
theorem xt_Gv_e5 {f g : Nat → Int32} (h : xt_Gv f) (e : xt_e5 g f) : xt_Gv g := by
  obtain ⟨c, r, sd, lv, bo, h9⟩ := h
  exact ⟨c, r, sd, lv, bo, xt_Gp_e5 h9 e⟩
theorem xt_pkp_of {S T : xt_St} {p q : Nat} (h0 : ∀ f, f < 5 → T.1 p f = S.1 q f) (h1 : ∀ j, j < 256 → T.2.1 (p + 1) j = S.2.1 (q + 1) j) (h2 : ∀ j, j < 256 → T.2.1 (p + 2) j = S.2.1 (q + 2) j) : xt_e5 (xt_pkp T p) (xt_pkp S q) := by
  intro j hj
  unfold xt_pkp
  by_cases g1 : j < 5
  · simp only [g1, if_true]; exact h0 j g1
  · by_cases g2 : j < 261
    · simp only [g1, g2, if_true, if_false]; exact h1 _ (by omega)
    · simp only [g1, g2, if_false]; exact h2 _ (by omega)
theorem xt_pkp_0 {S : xt_St} {p i : Nat} (h : i < 5) : xt_pkp S p i = S.1 p i := by simp [xt_pkp, h]
theorem xt_pkp_1 {S : xt_St} {p j : Nat} (h : j < 256) : xt_pkp S p (5 + j) = S.2.1 (p + 1) j := by
  have e1 : ¬ (5 + j < 5) := by omega
  have e2 : 5 + j < 261 := by omega
  have e3 : 5 + j - 5 = j := by omega
  unfold xt_pkp
  rw [if_neg e1, if_pos e2, e3]
theorem xt_pkp_2 {S : xt_St} {p j : Nat} : xt_pkp S p (261 + j) = S.2.1 (p + 2) j := by
  have e1 : ¬ (261 + j < 5) := by omega
  have e2 : ¬ (261 + j < 261) := by omega
  have e3 : 261 + j - 261 = j := by omega
  unfold xt_pkp
  rw [if_neg e1, if_neg e2, e3]
theorem xt_sl_le {nx k i : Nat} : 9 ≤ xt_sl nx k i ∧ xt_sl nx k i ≤ 30 := by unfold xt_sl; omega
/-- what of the tiler's cells counts -/
def xt_cf (S T : xt_St) : Prop := (∀ i f, i < 49 → i ≠ 33 → T.1 i f = S.1 i f) ∧ ∀ i, i < 49 → (i < 34 ∨ 41 < i) → T.2.1 i = S.2.1 i
def xt_mf (S T : xt_St) : Prop := (∀ f, f ≠ 0 → f ≠ 16 → f ≠ 17 → f ≠ 18 → T.1 49 f = S.1 49 f) ∧ ∀ i, (50 ≤ i ∧ i ≤ 52) ∨ (54 ≤ i ∧ i ≤ 55) → T.2.1 i = S.2.1 i
theorem xt_cf_rf {S : xt_St} : xt_cf S S := ⟨fun _ _ _ _ => rfl, fun _ _ _ => rfl⟩
theorem xt_mf_rf {S : xt_St} : xt_mf S S := ⟨fun _ _ _ _ _ => rfl, fun _ _ => rfl⟩
theorem xt_cf_tr {S T U : xt_St} (h : xt_cf S T) (g : xt_cf T U) : xt_cf S U := ⟨fun i f a b => (g.1 i f a b).trans (h.1 i f a b), fun i a b => (g.2 i a b).trans (h.2 i a b)⟩
theorem xt_mf_tr {S T U : xt_St} (h : xt_mf S T) (g : xt_mf T U) : xt_mf S U := ⟨fun f a b c d => (g.1 f a b c d).trans (h.1 f a b c d), fun i a => (g.2 i a).trans (h.2 i a)⟩
theorem xt_CR_of {S T : xt_St} {A : xt_As} (h : xt_cf S T) (hA : xt_CR S A) : xt_CR T A := by
  obtain ⟨a1, ⟨nx, a2, a3⟩, a4, a5, a6, a7, a8⟩ := hA
  have hp : ∀ p, p ≤ 30 → xt_e5 (xt_pkp T p) (xt_pkp S p) := fun p hp => xt_pkp_of (fun f _ => h.1 p f (by omega) (by omega)) (fun j _ => by rw [h.2 (p + 1) (by omega) (by omega)]) (fun j _ => by rw [h.2 (p + 2) (by omega) (by omega)])
  refine ⟨xt_e5_tr (hp 1 (by decide)) a1, ⟨nx, ?_, fun i f hf => xt_e5_tr (hp _ xt_sl_le.2) (a3 i f hf)⟩, ?_, ?_, ?_, ?_, ?_⟩
  · exact ⟨by rw [h.1 7 1 (by decide) (by decide)]; exact a2.1, by rw [h.1 7 2 (by decide) (by decide)]; exact a2.2.1, a2.2.2⟩
  · cases hs : A.snap with
    | none => rw [hs] at a4; show T.1 0 2 = nI 0; rw [h.1 0 2 (by decide) (by decide)]; exact a4
    | some f => rw [hs] at a4; exact ⟨by rw [h.1 0 2 (by decide) (by decide)]; exact a4.1, xt_e5_tr (hp 4 (by decide)) a4.2⟩
  · rw [h.1 46 1 (by decide) (by decide), h.2 47 (by decide) (by decide)]; exact a5
  · rw [h.1 0 7 (by decide) (by decide)]; exact a6
  · rw [h.1 0 8 (by decide) (by decide), h.1 0 9 (by decide) (by decide)]; exact a7
  · rw [h.1 42 0 (by decide) (by decide), h.2 43 (by decide) (by decide)]; exact a8
theorem xt_MR_of {S T : xt_St} {A : xt_As} (h : xt_mf S T) (hA : xt_MR S A) : xt_MR T A := by
  obtain ⟨a1, ⟨a2, a2b, a3⟩, a4, a5, a6, a7, a8⟩ := hA
  refine ⟨?_, ⟨?_, a2b, fun i f hf => ?_⟩, ?_, ?_, ?_, ?_, ?_⟩
  · rw [h.2 50 (by decide)]; exact a1
  · rw [h.1 3 (by decide) (by decide) (by decide) (by decide)]; exact a2
  · rw [h.2 51 (by decide)]; exact a3 i f hf
  · cases hs : A.snap with
    | none => rw [hs] at a4; show T.1 49 5 = nI 0; rw [h.1 5 (by decide) (by decide) (by decide) (by decide)]; exact a4
    | some f => rw [hs] at a4; exact ⟨by rw [h.1 5 (by decide) (by decide) (by decide) (by decide)]; exact a4.1, by rw [h.2 52 (by decide)]; exact a4.2⟩
  · rw [h.1 8 (by decide) (by decide) (by decide) (by decide), h.2 54 (by decide)]; exact a5
  · rw [h.1 10 (by decide) (by decide) (by decide) (by decide)]; exact a6
  · rw [h.1 11 (by decide) (by decide) (by decide) (by decide), h.1 12 (by decide) (by decide) (by decide) (by decide)]; exact a7
  · rw [h.1 13 (by decide) (by decide) (by decide) (by decide), h.2 55 (by decide)]; exact a8
theorem xt_fr_cf {S T : xt_St} (h : xt_fr S T) : xt_cf S T := ⟨fun i f _ hi => h.1 i f hi, fun i _ hi => h.2.1 i hi⟩
theorem xt_fr_mf {S T : xt_St} (h : xt_fr S T) : xt_mf S T := ⟨fun f _ _ _ _ => h.1 49 f (by decide), fun i hi => h.2.1 i (by omega)⟩
theorem xt_mr_cf {S T : xt_St} {k : Nat} (h : xt_mr S k T) : xt_cf S T := ⟨fun i f hi _ => h.1.1 i f (Or.inl (by omega)), fun i hi _ => h.1.2.1 i (by omega)⟩
theorem xt_mr_mf {S T : xt_St} {k : Nat} (h : xt_mr S k T) : xt_mf S T := ⟨fun f a b c d => h.1.1 49 f (Or.inr ⟨a, b, c, d⟩), fun i hi => h.1.2.1 i (by omega)⟩
theorem xt_mr_2 {S T : xt_St} {k : Nat} (h : xt_mr S k T) : T.2.2.1 67 = S.2.2.1 67 := h.1.2.2.1 67 (by decide) (by decide)
/-- out[0] of the long answers -/
def xt_o1 (S : xt_St) (x : Int32) : xt_St := xt_sB S 67 (vp_updL (S.2.2.1 67) 0 x.toInt64)
theorem xt_o1_cf {S : xt_St} {x : Int32} : xt_cf S (xt_o1 S x) := ⟨fun _ _ _ _ => rfl, fun _ _ _ => rfl⟩
theorem xt_o1_mf {S : xt_St} {x : Int32} : xt_mf S (xt_o1 S x) := ⟨fun _ _ _ _ _ => rfl, fun _ _ => rfl⟩
theorem xt_o1_v {S : xt_St} {x : Int32} : (xt_o1 S x).2.2.1 67 0 = x.toInt64 := by simp [xt_o1, xt_sB, vp_updL]
/-- one call of the law, both sides: W the wrapper's contract, M the model's -/
def xt_Sp (W : (Option Value → xt_St → Prop) → Prop) (M : xt_St → (Option Value → xt_St → Prop) → Prop) : Prop :=
  ∃ (kk : Nat) (P1 : xt_St → Prop), kk < 4 ∧ W (fun v S' => v = some (.int (nI kk)) ∧ P1 S') ∧ ∀ S', P1 S' → ∃ (b : Int32) (P2 : xt_St → Prop), M S' (fun v S'' => v = some (.int b) ∧ P2 S'') ∧ ∀ S'', P2 S'' → S''.1 49 0 = nI kk ∧ (kk = 0 → S''.2.2.1 67 0 = b.toInt64) ∧ xt_Inv S''
/-- nothing changes, an answer -/
theorem xt_Sp_ro {S : xt_St} {W : (Option Value → xt_St → Prop) → Prop} {M : xt_St → (Option Value → xt_St → Prop) → Prop} (hI : xt_Inv S) (x : Int32) (hW : W (fun v S' => v = some (.int (nI 0)) ∧ ∃ T, xt_fr S T ∧ S' = xt_o1 T x))
    (hM : ∀ S', xt_cf S S' → xt_mf S S' → M S' (xt_Ep (some (.int x)) (xt_mr S' 0))) : xt_Sp W M := by
  refine ⟨0, _, by decide, hW, fun S' h => ?_⟩
  obtain ⟨T, hT, rfl⟩ := h
  have c1 : xt_cf S (xt_o1 T x) := xt_cf_tr (xt_fr_cf hT) xt_o1_cf
  have m1 : xt_mf S (xt_o1 T x) := xt_mf_tr (xt_fr_mf hT) xt_o1_mf
  refine ⟨x, _, hM _ c1 m1, fun S2 h2 => ⟨h2.2, fun _ => by rw [xt_mr_2 h2]; exact xt_o1_v, ?_⟩⟩
  obtain ⟨A, g, hc, hm⟩ := hI
  exact ⟨A, g, xt_CR_of (xt_cf_tr c1 (xt_mr_cf h2)) hc, xt_MR_of (xt_mf_tr m1 (xt_mr_mf h2)) hm⟩
/-- nothing changes, refused -/
theorem xt_Sp_no {S : xt_St} {W : (Option Value → xt_St → Prop) → Prop} {M : xt_St → (Option Value → xt_St → Prop) → Prop} (hI : xt_Inv S) (k : Nat) {b : Int32} (hk : 0 < k ∧ k < 4) (hW : W (fun v S' => v = some (.int (nI k)) ∧ xt_fr S S'))
    (hM : ∀ S', xt_cf S S' → xt_mf S S' → M S' (xt_Ep (some (.int b)) (xt_mr S' k))) : xt_Sp W M := by
  refine ⟨k, _, hk.2, hW, fun S' h => ?_⟩
  have c1 : xt_cf S S' := xt_fr_cf h
  have m1 : xt_mf S S' := xt_fr_mf h
  refine ⟨b, _, hM _ c1 m1, fun S2 h2 => ⟨h2.2, fun h9 => absurd h9 (by omega), ?_⟩⟩
  obtain ⟨A, g, hc, hm⟩ := hI
  exact ⟨A, g, xt_CR_of (xt_cf_tr c1 (xt_mr_cf h2)) hc, xt_MR_of (xt_mf_tr m1 (xt_mr_mf h2)) hm⟩
/-- what is known of the picture -/
theorem xt_CR_Pic {S : xt_St} {A : xt_As} {c r sd lv bo : Nat} (h : xt_CR S A) (g : xt_Gp A.pic c r sd lv bo) : xt_Pic S 1 c r sd lv bo ∧ (∀ j, j < 256 → S.2.1 2 j = A.pic (5 + j)) ∧ (∀ j, j < 256 → S.2.1 3 j = A.pic (261 + j)) := by
  have e := h.1
  obtain ⟨a0, a1, a2, a3, a4, a5⟩ := g.1
  refine ⟨⟨?_, ?_, ?_, ?_, ?_, a5⟩, fun j hj => ?_, fun j hj => ?_⟩
  · rw [← a0, ← e 0 (by decide), xt_pkp_0 (by decide)]
  · rw [← a1, ← e 1 (by decide), xt_pkp_0 (by decide)]
  · rw [← a2, ← e 2 (by decide), xt_pkp_0 (by decide)]
  · rw [← a3, ← e 3 (by decide), xt_pkp_0 (by decide)]
  · rw [← a4, ← e 4 (by decide), xt_pkp_0 (by decide)]
  · rw [← e (5 + j) (by omega), xt_pkp_1 hj]
  · rw [← e (261 + j) (by omega), xt_pkp_2]
theorem xt_MR_Mp {S : xt_St} {A : xt_As} {c r sd lv bo : Nat} (h : xt_MR S A) (g : xt_Gp A.pic c r sd lv bo) : xt_Mp S c r sd lv bo ∧ (∀ j, j < 256 → xt_mV S j = A.pic (5 + j)) ∧ (∀ j, j < 256 → xt_mK S j = A.pic (261 + j)) := by
  have e := h.1
  obtain ⟨a0, a1, a2, a3, a4, a5⟩ := g.1
  exact ⟨⟨(e 0 (by decide)).trans a0, (e 1 (by decide)).trans a1, (e 2 (by decide)).trans a2, (e 3 (by decide)).trans a3, (e 4 (by decide)).trans a4, a5⟩, fun j hj => e _ (by omega), fun j hj => e _ (by omega)⟩
end XL1
