/-! the changes of the picture, the history, the snapshot, in that tongue -/
section XL2
def xt_psh (h : List (Nat → Int32)) (f : Nat → Int32) : List (Nat → Int32) := if h.length < 8 then h ++ [f] else h.tail ++ [f]
theorem xt_psh_len {h : List (Nat → Int32)} {f : Nat → Int32} (h8 : h.length ≤ 8) : (xt_psh h f).length = min (h.length + 1) 8 := by
  unfold xt_psh
  split <;> simp <;> omega
theorem xt_psh_at {h : List (Nat → Int32)} {f g : Nat → Int32} {i : Nat} (h8 : h.length ≤ 8) (e : (xt_psh h f)[i]? = some g) :
    (h.length < 8 ∧ ((i < h.length ∧ h[i]? = some g) ∨ (i = h.length ∧ g = f))) ∨ (h.length = 8 ∧ ((i < 7 ∧ h[i + 1]? = some g) ∨ (i = 7 ∧ g = f))) := by
  unfold xt_psh at e
  split at e
  · rename_i hl
    refine Or.inl ⟨hl, ?_⟩
    by_cases hi : i < h.length
    · rw [List.getElem?_append_left hi] at e; exact Or.inl ⟨hi, e⟩
    · rw [List.getElem?_append_right (by omega)] at e
      have hz : i - h.length = 0 := by
        cases hq : i - h.length with
        | zero => rfl
        | succ z => rw [hq] at e; simp at e
      rw [hz] at e
      exact Or.inr ⟨by omega, (by simpa using e.symm)⟩
  · rename_i hl
    have hl8 : h.length = 8 := by omega
    have ht : h.tail.length = 7 := by simp [hl8]
    refine Or.inr ⟨hl8, ?_⟩
    by_cases hi : i < 7
    · rw [List.getElem?_append_left (by omega), List.getElem?_tail] at e; exact Or.inl ⟨hi, e⟩
    · rw [List.getElem?_append_right (by omega)] at e
      have hz : i - h.tail.length = 0 := by
        cases hq : i - h.tail.length with
        | zero => rfl
        | succ z => rw [hq] at e; simp at e
      rw [hz] at e
      exact Or.inr ⟨by omega, (by simpa using e.symm)⟩
theorem xt_psh_mem {h : List (Nat → Int32)} {f g : Nat → Int32} (e : g ∈ xt_psh h f) : g ∈ h ∨ g = f := by
  unfold xt_psh at e
  split at e
  · simpa using e
  · rcases List.mem_append.mp e with e9 | e9
    · exact Or.inl (List.mem_of_mem_tail e9)
    · exact Or.inr (by simpa using e9)
variable {S T : xt_St} {A : xt_As} {nx kp : Nat}
theorem xt_kpo_1 {i f : Nat} (h1 : i ≠ 9 + 3 * nx) (h2 : i ≠ 7) : (xt_keep S nx kp).1 i f = S.1 i f := by simp [xt_keep, xt_sN, xt_cp, h1, h2]
theorem xt_kpo_2 {i : Nat} (h1 : i ≠ 10 + 3 * nx) (h2 : i ≠ 11 + 3 * nx) : (xt_keep S nx kp).2.1 i = S.2.1 i := by
  funext j
  have h1' : ¬ i = 9 + 3 * nx + 1 := by omega
  have h2' : ¬ i = 9 + 3 * nx + 2 := by omega
  show xt_cpA S (9 + 3 * nx) 1 256 i j = _
  simp [xt_cpA, h1', h2']
theorem xt_keep_p {p : Nat} (h : p < 7 ∨ 33 ≤ p ∨ ∃ z, z ≠ nx ∧ p = 9 + 3 * z) (h9 : p ≠ 7) (hnx : nx < 8) (hp : p + 2 < 9 ∨ 9 ≤ p) : xt_e5 (xt_pkp (xt_keep S nx kp) p) (xt_pkp S p) := by
  have g : ∀ q, q = p ∨ q = p + 1 ∨ q = p + 2 → q ≠ 9 + 3 * nx + (q - p) := by
    intro q hq
    rcases h with h | h | ⟨z, hz, rfl⟩ <;> omega
  have g0 := g p (by omega)
  have g1 := g (p + 1) (by omega)
  have g2 := g (p + 2) (by omega)
  have a0 : p ≠ 9 + 3 * nx := by omega
  have a1 : p + 1 ≠ 10 + 3 * nx := by omega
  have a2 : p + 2 ≠ 11 + 3 * nx := by omega
  have a3 : p + 1 ≠ 11 + 3 * nx := by
    rcases h with h | h | ⟨z, hz, rfl⟩ <;> omega
  have a4 : p + 2 ≠ 10 + 3 * nx := by
    rcases h with h | h | ⟨z, hz, rfl⟩ <;> omega
  exact xt_pkp_of (fun f _ => xt_kpo_1 a0 h9) (fun j _ => by rw [xt_kpo_2 a1 a3]) (fun j _ => by rw [xt_kpo_2 a4 a2])
theorem xt_keep_n (hnx : nx < 8) : xt_e5 (xt_pkp (xt_keep S nx kp) (9 + 3 * nx)) (xt_pkp S 1) := by
  have h7 : ¬ 9 + 3 * nx = 7 := by omega
  refine xt_pkp_of (fun f hf => by simp [xt_keep, xt_sN, xt_cp, hf, h7]) (fun j hj => ?_) (fun j hj => ?_)
  · show xt_cpA S (9 + 3 * nx) 1 256 (9 + 3 * nx + 1) j = _
    have e : 9 + 3 * nx + 1 - (9 + 3 * nx) + 1 = 2 := by omega
    simp only [xt_cpA, hj, and_true, true_or, if_true, e]
  · show xt_cpA S (9 + 3 * nx) 1 256 (9 + 3 * nx + 2) j = _
    have e : 9 + 3 * nx + 2 - (9 + 3 * nx) + 1 = 3 := by omega
    simp only [xt_cpA, hj, and_true, or_true, if_true, e]
theorem xt_keep_71 : (xt_keep S nx kp).1 7 1 = nI (if nx + 1 < 8 then nx + 1 else 0) := by simp [xt_keep, xt_sN]
theorem xt_keep_72 : (xt_keep S nx kp).1 7 2 = nI (min (kp + 1) 8) := by simp [xt_keep, xt_sN]
/-- the picture kept in the history -/
theorem xt_CR_keep (h : xt_CR S A) (hn : xt_CH S A.hist nx) : xt_CR (xt_keep S nx A.hist.length) (xt_mk9 A.pic (xt_psh A.hist A.pic) A.snap A.n A.inp A.fault A.ref A.plan) := by
  obtain ⟨a1, -, a4, a5, a6, a7, a8⟩ := h
  obtain ⟨⟨b1, b2, b3, b4⟩, b5⟩ := hn
  refine ⟨xt_e5_tr (xt_keep_p (Or.inl (by decide)) (by decide) b3 (by decide)) a1, ⟨if nx + 1 < 8 then nx + 1 else 0, ⟨xt_keep_71, ?_, by split <;> omega, ?_⟩, ?_⟩, ?_, ?_, ?_, ?_, ?_⟩
  · rw [xt_keep_72, xt_psh_len b4]
  · rw [xt_psh_len b4]; omega
  · intro i f hf
    have hl := xt_psh_len (f := A.pic) b4
    rcases xt_psh_at b4 hf with ⟨h8, ⟨hi, e⟩ | ⟨hi, rfl⟩⟩ | ⟨h8, ⟨hi, e⟩ | ⟨hi, rfl⟩⟩
    · have hz : xt_sl (if nx + 1 < 8 then nx + 1 else 0) (xt_psh A.hist A.pic).length i = xt_sl nx A.hist.length i := by
        rw [hl]; unfold xt_sl; split <;> omega
      show xt_e5 (xt_pkp _ (xt_sl _ (xt_psh A.hist A.pic).length i)) f
      rw [hz]
      refine xt_e5_tr (xt_keep_p (Or.inr (Or.inr ⟨_, ?_, rfl⟩)) (by unfold xt_sl; omega) b3 (by unfold xt_sl; omega)) (b5 i f e)
      omega
    · have hz : xt_sl (if nx + 1 < 8 then nx + 1 else 0) (xt_psh A.hist A.pic).length i = 9 + 3 * nx := by
        rw [hl]; unfold xt_sl; split <;> omega
      show xt_e5 (xt_pkp _ (xt_sl _ (xt_psh A.hist A.pic).length i)) _
      rw [hz]
      exact xt_e5_tr (xt_keep_n b3) a1
    · have hz : xt_sl (if nx + 1 < 8 then nx + 1 else 0) (xt_psh A.hist A.pic).length i = xt_sl nx A.hist.length (i + 1) := by
        rw [hl]; unfold xt_sl; split <;> omega
      show xt_e5 (xt_pkp _ (xt_sl _ (xt_psh A.hist A.pic).length i)) f
      rw [hz]
      refine xt_e5_tr (xt_keep_p (Or.inr (Or.inr ⟨_, ?_, rfl⟩)) (by unfold xt_sl; omega) b3 (by unfold xt_sl; omega)) (b5 (i + 1) f e)
      omega
    · have hz : xt_sl (if nx + 1 < 8 then nx + 1 else 0) (xt_psh A.hist A.pic).length i = 9 + 3 * nx := by
        rw [hl]; unfold xt_sl; split <;> omega
      show xt_e5 (xt_pkp _ (xt_sl _ (xt_psh A.hist A.pic).length i)) _
      rw [hz]
      exact xt_e5_tr (xt_keep_n b3) a1
  · cases hs : A.snap with
    | none => rw [hs] at a4; show (xt_keep S nx _).1 0 2 = nI 0; rw [xt_kpo_1 (by omega) (by decide)]; exact a4
    | some f => rw [hs] at a4; exact ⟨by rw [xt_kpo_1 (by omega) (by decide)]; exact a4.1, xt_e5_tr (xt_keep_p (Or.inl (by decide)) (by decide) b3 (by decide)) a4.2⟩
  · rw [xt_kpo_1 (by omega) (by decide), xt_kpo_2 (by omega) (by omega)]; exact a5
  · rw [xt_kpo_1 (by omega) (by decide)]; exact a6
  · rw [xt_kpo_1 (by omega) (by decide), xt_kpo_1 (by omega) (by decide)]; exact a7
  · rw [xt_kpo_1 (by omega) (by decide), xt_kpo_2 (by omega) (by omega)]; exact a8
theorem xt_keep_mf : nx < 8 → xt_mf S (xt_keep S nx kp) := fun h => ⟨fun f _ _ _ _ => xt_kpo_1 (by omega) (by decide), fun i hi => xt_kpo_2 (by omega) (by omega)⟩
/-- a new picture -/
theorem xt_CR_pic {f : Nat → Int32} (h : xt_CR S A) (h1 : ∀ i f, i < 49 → i ≠ 33 → i ≠ 1 → T.1 i f = S.1 i f) (h2 : ∀ i, i < 49 → (i < 34 ∨ 41 < i) → i ≠ 2 → i ≠ 3 → T.2.1 i = S.2.1 i) (hf : xt_e5 (xt_pkp T 1) f) : xt_CR T (xt_mk9 (f) A.hist A.snap A.n A.inp A.fault A.ref A.plan) := by
  obtain ⟨a1, ⟨nx, a2, a3⟩, a4, a5, a6, a7, a8⟩ := h
  have hp : ∀ p, 4 ≤ p → p ≤ 30 → xt_e5 (xt_pkp T p) (xt_pkp S p) := fun p hp hq => xt_pkp_of (fun f _ => h1 p f (by omega) (by omega) (by omega)) (fun j _ => by rw [h2 (p + 1) (by omega) (by omega) (by omega) (by omega)]) (fun j _ => by rw [h2 (p + 2) (by omega) (by omega) (by omega) (by omega)])
  refine ⟨hf, ⟨nx, ?_, fun i f hf => xt_e5_tr (hp _ (Nat.le_trans (by decide : 4 ≤ 9) xt_sl_le.1) xt_sl_le.2) (a3 i f hf)⟩, ?_, ?_, ?_, ?_, ?_⟩
  · exact ⟨by rw [h1 7 1 (by decide) (by decide) (by decide)]; exact a2.1, by rw [h1 7 2 (by decide) (by decide) (by decide)]; exact a2.2.1, a2.2.2⟩
  · cases hs : A.snap with
    | none => rw [hs] at a4; show T.1 0 2 = nI 0; rw [h1 0 2 (by decide) (by decide) (by decide)]; exact a4
    | some f => rw [hs] at a4; exact ⟨by rw [h1 0 2 (by decide) (by decide) (by decide)]; exact a4.1, xt_e5_tr (hp 4 (by decide) (by decide)) a4.2⟩
  · rw [h1 46 1 (by decide) (by decide) (by decide), h2 47 (by decide) (by decide) (by decide) (by decide)]; exact a5
  · rw [h1 0 7 (by decide) (by decide) (by decide)]; exact a6
  · rw [h1 0 8 (by decide) (by decide) (by decide), h1 0 9 (by decide) (by decide) (by decide)]; exact a7
  · rw [h1 42 0 (by decide) (by decide) (by decide), h2 43 (by decide) (by decide) (by decide) (by decide)]; exact a8
theorem xt_MR_pic {f g : Nat → Int32} (h : xt_MR S A) (e : xt_e5 g f) : xt_MR (xt_sA S 50 g) (xt_mk9 (f) A.hist A.snap A.n A.inp A.fault A.ref A.plan) := by
  obtain ⟨a1, a2, a4, a5, a6, a7, a8⟩ := h
  refine ⟨fun j hj => ?_, a2, ?_, a5, a6, a7, a8⟩
  · show (xt_sA S 50 g).2.1 50 j = f j
    have : (xt_sA S 50 g).2.1 50 = g := by simp [xt_sA]
    rw [this]; exact e j hj
  · cases hs : A.snap with
    | none => rw [hs] at a4; exact a4
    | some f => rw [hs] at a4; exact a4
theorem xt_chg_51 {i j : Nat} : (xt_chg S kp).2.1 51 (517 * i + j) = xt_hk S kp (517 * i + j) := by simp [xt_chg, xt_sN, xt_sA]
theorem xt_chg_o {i : Nat} (h : i ≠ 51) : (xt_chg S kp).2.1 i = S.2.1 i := by simp [xt_chg, xt_sN, xt_sA, h]
theorem xt_chg_f {f : Nat} (h : f ≠ 3) : (xt_chg S kp).1 49 f = S.1 49 f := by simp [xt_chg, xt_sN, xt_sA, h]
theorem xt_chg_3 : (xt_chg S kp).1 49 3 = nI (min (kp + 1) 8) := by simp [xt_chg, xt_sN]
theorem xt_MR_chg (h : xt_MR S A) : xt_MR (xt_chg S A.hist.length) (xt_mk9 A.pic (xt_psh A.hist A.pic) A.snap A.n A.inp A.fault A.ref A.plan) := by
  obtain ⟨a1, ⟨a2, a2b, a3⟩, a4, a5, a6, a7, a8⟩ := h
  refine ⟨?_, ⟨?_, by rw [xt_psh_len a2b]; omega, fun i f hf => ?_⟩, ?_, ?_, ?_, ?_, ?_⟩
  · rw [xt_chg_o (by decide)]; exact a1
  · rw [xt_chg_3]; show _ = nI (xt_psh A.hist A.pic).length; rw [xt_psh_len a2b]
  · intro j hj
    show (xt_chg S A.hist.length).2.1 51 (517 * i + j) = f j
    rw [xt_chg_51]
    rcases xt_psh_at a2b hf with ⟨h8, ⟨hi, e⟩ | ⟨hi, rfl⟩⟩ | ⟨h8, ⟨hi, e⟩ | ⟨hi, rfl⟩⟩
    · have g1 : ¬ (517 * min A.hist.length 7 ≤ 517 * i + j ∧ 517 * i + j < 517 * min A.hist.length 7 + 517) := by omega
      have g2 : ¬ A.hist.length = 8 := by omega
      unfold xt_hk xt_hn xt_hs
      rw [if_neg g1, if_neg g2]
      exact a3 i f e j hj
    · have g1 : 517 * min A.hist.length 7 ≤ 517 * i + j ∧ 517 * i + j < 517 * min A.hist.length 7 + 517 := by omega
      have g2 : 517 * i + j - 517 * min A.hist.length 7 = j := by omega
      unfold xt_hk xt_hn
      rw [if_pos g1, g2]
      exact a1 j hj
    · have g1 : ¬ (517 * min A.hist.length 7 ≤ 517 * i + j ∧ 517 * i + j < 517 * min A.hist.length 7 + 517) := by omega
      have g3 : 517 * i + j < 3619 := by omega
      have g4 : 517 + (517 * i + j) = 517 * (i + 1) + j := by omega
      unfold xt_hk xt_hn xt_hs
      rw [if_neg g1, if_pos h8]
      simp only [g3, if_true, g4]
      exact a3 (i + 1) f e j hj
    · have g1 : 517 * min A.hist.length 7 ≤ 517 * i + j ∧ 517 * i + j < 517 * min A.hist.length 7 + 517 := by omega
      have g2 : 517 * i + j - 517 * min A.hist.length 7 = j := by omega
      unfold xt_hk xt_hn
      rw [if_pos g1, g2]
      exact a1 j hj
  · cases hs : A.snap with
    | none => rw [hs] at a4; show (xt_chg S _).1 49 5 = nI 0; rw [xt_chg_f (by decide)]; exact a4
    | some f => rw [hs] at a4; exact ⟨by rw [xt_chg_f (by decide)]; exact a4.1, by rw [xt_chg_o (by decide)]; exact a4.2⟩
  · rw [xt_chg_f (by decide), xt_chg_o (by decide)]; exact a5
  · rw [xt_chg_f (by decide)]; exact a6
  · rw [xt_chg_f (by decide), xt_chg_f (by decide)]; exact a7
  · rw [xt_chg_f (by decide), xt_chg_o (by decide)]; exact a8
theorem xt_chg_cf : xt_cf S (xt_chg S kp) := ⟨fun i f hi _ => by
    have : ¬ i = 49 := by omega
    simp [xt_chg, xt_sN, xt_sA, this], fun i hi _ => xt_chg_o (by omega)⟩
theorem xt_n0_cf {x : Int32} : xt_cf S (xt_sN S 49 0 x) := ⟨fun i f hi _ => by
    have : ¬ i = 49 := by omega
    simp [xt_sN, this], fun _ _ _ => rfl⟩
theorem xt_n0_mf {x : Int32} : xt_mf S (xt_sN S 49 0 x) := ⟨fun f hf _ _ _ => by simp [xt_sN, hf], fun _ _ => rfl⟩
theorem xt_50_cf {g : Nat → Int32} : xt_cf S (xt_sA S 50 g) := ⟨fun _ _ _ _ => rfl, fun i hi _ => by
    have : ¬ i = 50 := by omega
    simp [xt_sA, this]⟩
/-- what the model's scratch may do between -/
def xt_mq (S V : xt_St) : Prop := xt_cf S V ∧ xt_mf S V ∧ V.2.2.1 67 = S.2.2.1 67
def xt_Mc (S' S9 : xt_St) (kp : Nat) (f : Nat → Int32) : Prop := ∃ V U g, xt_mq S' V ∧ xt_mq (xt_chg V kp) U ∧ S9 = xt_sA U 50 g ∧ xt_e5 g f ∧ S9.1 49 0 = nI 0
theorem xt_mq_rf {S : xt_St} : xt_mq S S := ⟨xt_cf_rf, xt_mf_rf, rfl⟩
theorem xt_mq_tr {S T U : xt_St} (h : xt_mq S T) (g : xt_mq T U) : xt_mq S U := ⟨xt_cf_tr h.1 g.1, xt_mf_tr h.2.1 g.2.1, g.2.2.trans h.2.2⟩
theorem xt_mq_0 {S : xt_St} {x : Int32} : xt_mq S (xt_sN S 49 0 x) := ⟨xt_n0_cf, xt_n0_mf, rfl⟩
theorem xt_mq_fr {S T : xt_St} (h : xt_mfr S T) : xt_mq S T := ⟨⟨fun i f hi _ => h.1 i f (Or.inl (by omega)), fun i hi _ => h.2.1 i (by omega)⟩, ⟨fun f _ b c d => h.1 49 f (Or.inr ⟨b, c, d⟩), fun i hi => h.2.1 i (by omega)⟩, h.2.2.1 67 (by decide) (by decide)⟩
theorem xt_Mc_1 {S' : xt_St} {g f : Nat → Int32} (e : xt_e5 g f) : xt_Mc S' (xt_sA (xt_chg (xt_sN S' 49 0 (nI 0)) kp) 50 g) kp f :=
  ⟨_, _, g, xt_mq_0, xt_mq_rf, rfl, e, by show (xt_chg (xt_sN S' 49 0 (nI 0)) kp).1 49 0 = nI 0; rw [xt_chg_f (by decide)]; simp [xt_sN]⟩
theorem xt_Mc_2 {S' V : xt_St} {g f : Nat → Int32} (h : xt_mfr (xt_sN S' 49 0 (nI 0)) V) (e : xt_e5 g f) : xt_Mc S' (xt_sA (xt_chg V kp) 50 g) kp f :=
  ⟨_, _, g, xt_mq_tr xt_mq_0 (xt_mq_fr h), xt_mq_rf, rfl, e, by show (xt_chg V kp).1 49 0 = nI 0; rw [xt_chg_f (by decide), h.1 49 0 (by decide)]; simp [xt_sN]⟩
theorem xt_Mc_3 {S' V : xt_St} {g f : Nat → Int32} (h : xt_mfr (xt_chg (xt_sN S' 49 0 (nI 0)) kp) V) (e : xt_e5 g f) : xt_Mc S' (xt_sA V 50 g) kp f :=
  ⟨_, _, g, xt_mq_0, xt_mq_fr h, rfl, e, by show V.1 49 0 = nI 0; rw [h.1 49 0 (by decide), xt_chg_f (by decide)]; simp [xt_sN]⟩
/-- a change: the picture kept, then a new picture, on both sides -/
theorem xt_Sp_ch {W : (Option Value → xt_St → Prop) → Prop} {M : xt_St → (Option Value → xt_St → Prop) → Prop} {S1 : xt_St → Prop} (x : Int32) (hA : xt_GA A) (hm : xt_MR S A) (hW : W (fun v S' => v = some (.int (nI 0)) ∧ ∃ T, S1 T ∧ S' = xt_o1 T x))
    (hc : ∀ T, S1 T → xt_mf S T ∧ xt_CR T (xt_mk9 (xt_pkp T 1) (xt_psh A.hist A.pic) A.snap A.n A.inp A.fault A.ref A.plan) ∧ xt_Gv (xt_pkp T 1))
    (hM : ∀ T S', S1 T → xt_mf S S' → ∃ P, M S' (xt_Ep (some (.int x)) P) ∧ ∀ S9, P S9 → xt_Mc S' S9 A.hist.length (xt_pkp T 1)) : xt_Sp W M := by
  refine ⟨0, _, by decide, hW, fun S' h => ?_⟩
  obtain ⟨T, hT, rfl⟩ := h
  obtain ⟨c1, c2, c3⟩ := hc T hT
  have m1 : xt_mf S (xt_o1 T x) := xt_mf_tr c1 xt_o1_mf
  have m2 := xt_MR_of m1 hm
  obtain ⟨P, hMP, hP9⟩ := hM T _ hT m1
  refine ⟨x, P, hMP, fun S2 h2 => ?_⟩
  obtain ⟨V, U, g, v1, u1, rfl, e, e0⟩ := hP9 S2 h2
  refine ⟨e0, fun _ => ?_, ⟨(xt_mk9 (xt_pkp T 1) (xt_psh A.hist A.pic) A.snap A.n A.inp A.fault A.ref A.plan), ⟨c3, fun f hf => ?_, hA.2.2⟩, ?_, ?_⟩⟩
  · show U.2.2.1 67 0 = _
    rw [u1.2.2]
    show V.2.2.1 67 0 = _
    rw [v1.2.2]
    exact xt_o1_v
  · rcases xt_psh_mem hf with h9 | rfl
    · exact hA.2.1 f h9
    · exact hA.1
  · exact xt_CR_of (xt_cf_tr (xt_cf_tr (xt_cf_tr (xt_cf_tr xt_o1_cf v1.1) xt_chg_cf) u1.1) xt_50_cf) c2
  · exact xt_MR_pic (xt_MR_of u1.2.1 (xt_MR_chg (xt_MR_of v1.2.1 m2))) e
theorem xt_CH_of {h : List (Nat → Int32)} (g : xt_cf S T) (hn : xt_CH S h nx) : xt_CH T h nx := by
  obtain ⟨⟨b1, b2, b3, b4⟩, b5⟩ := hn
  have hp : ∀ p, p ≤ 30 → xt_e5 (xt_pkp T p) (xt_pkp S p) := fun p hp => xt_pkp_of (fun f _ => g.1 p f (by omega) (by omega)) (fun j _ => by rw [g.2 (p + 1) (by omega) (by omega)]) (fun j _ => by rw [g.2 (p + 2) (by omega) (by omega)])
  exact ⟨⟨by rw [g.1 7 1 (by decide) (by decide)]; exact b1, by rw [g.1 7 2 (by decide) (by decide)]; exact b2, b3, b4⟩, fun i f hf => xt_e5_tr (hp _ xt_sl_le.2) (b5 i f hf)⟩
theorem xt_CR_ch {T0 : xt_St} (h : xt_CR S A) (hn : xt_CH S A.hist nx) (hf : xt_fr S T0) (h1 : ∀ i f, i < 49 → i ≠ 33 → i ≠ 1 → T.1 i f = (xt_keep T0 nx A.hist.length).1 i f) (h2 : ∀ i, i < 49 → (i < 34 ∨ 41 < i) → i ≠ 2 → i ≠ 3 → T.2.1 i = (xt_keep T0 nx A.hist.length).2.1 i) : xt_CR T (xt_mk9 (xt_pkp T 1) (xt_psh A.hist A.pic) A.snap A.n A.inp A.fault A.ref A.plan) :=
  xt_CR_pic (xt_CR_keep (xt_CR_of (xt_fr_cf hf) h) (xt_CH_of (xt_fr_cf hf) hn)) h1 h2 xt_e5_rf
theorem xt_e5_3 {g : Nat → Int32} (h0 : ∀ i, i < 5 → g i = T.1 1 i) (h1 : ∀ j, j < 256 → g (5 + j) = T.2.1 2 j) (h2 : ∀ j, j < 256 → g (261 + j) = T.2.1 3 j) : xt_e5 g (xt_pkp T 1) := by
  intro j hj
  by_cases g1 : j < 5
  · rw [xt_pkp_0 g1]; exact h0 j g1
  · by_cases g2 : j < 261
    · have e : j = 5 + (j - 5) := by omega
      rw [e, xt_pkp_1 (by omega)]; exact h1 _ (by omega)
    · have e : j = 261 + (j - 261) := by omega
      rw [e, xt_pkp_2]; exact h2 _ (by omega)
theorem xt_Gv_of {c r sd lv bo : Nat} (hP : xt_Pic T 1 c r sd lv bo) (h1 : ∀ j, j < 256 → ∃ m, m ≤ 255 ∧ T.2.1 2 j = nI m) (h2 : ∀ j, j < 256 → T.2.1 3 j = nI 0 ∨ T.2.1 3 j = nI 1) : xt_Gv (xt_pkp T 1) := by
  obtain ⟨a0, a1, a2, a3, a4, a5⟩ := hP
  refine ⟨c, r, sd, lv, bo, ⟨?_, ?_, ?_, ?_, ?_, a5⟩, fun j hj => ?_, fun j hj => ?_⟩
  · rw [xt_pkp_0 (by decide)]; exact a0
  · rw [xt_pkp_0 (by decide)]; exact a1
  · rw [xt_pkp_0 (by decide)]; exact a2
  · rw [xt_pkp_0 (by decide)]; exact a3
  · rw [xt_pkp_0 (by decide)]; exact a4
  · rw [xt_pkp_1 hj]; exact h1 j hj
  · rw [xt_pkp_2]; exact h2 j hj
end XL2
