/-! THE MODEL: an item, as the text's form has it -/
section XM22
variable {E : xt_Ev} {l : Launch} {S : xt_St}
theorem xt_pre_sp {P : Nat → Prop} : ∀ m, (∀ j, j < xt_pre P m → P j) ∧ (xt_pre P m < m → ¬ P (xt_pre P m)) := by
  intro m
  induction m with
  | zero => exact ⟨fun j hj => absurd hj (Nat.not_lt_zero _), fun h => absurd h (Nat.not_lt_zero _)⟩
  | succ m ih =>
    have hle := xt_pre_le (P := P) (m := m)
    by_cases z : xt_pre P m = m ∧ P m
    · have e : xt_pre P (m + 1) = m + 1 := if_pos z
      rw [e]
      refine ⟨fun j hj => ?_, fun h => absurd h (Nat.lt_irrefl _)⟩
      by_cases q : j = m
      · rw [q]; exact z.2
      · exact ih.1 j (by have := z.1; omega)
    · have e : xt_pre P (m + 1) = xt_pre P m := if_neg z
      rw [e]
      refine ⟨ih.1, fun h => ?_⟩
      by_cases q : xt_pre P m = m
      · intro hp
        rw [q] at hp
        exact z ⟨q, hp⟩
      · exact ih.2 (by omega)
theorem xt_P4 {i k : Nat} {x : Int32} (hi : i = 21 ∨ i = 22) (hk : k < 4) : xt_ft ((xt_tb.getD i []).getD k 0) x = xt_pf9 k x := by
  have e : (xt_tb.getD i []).getD k 0 = if k % 2 = 0 then nI 99 else nI 82 := by
    rcases hi with rfl | rfl <;> rcases (by omega : k = 0 ∨ k = 1 ∨ k = 2 ∨ k = 3) with rfl | rfl | rfl | rfl <;> decide +kernel
  rw [e]
  by_cases z : k % 2 = 0
  · exact (congrArg (fun q => xt_ft q x) (if_pos z)).trans (xt_ft99.trans (show (nI 97 ≤ x ∧ x ≤ nI 112) = xt_pf9 k x from (if_pos z).symm))
  · exact (congrArg (fun q => xt_ft q x) (if_neg z)).trans (xt_ft82.trans (show (nI 65 ≤ x ∧ x ≤ nI 80) = xt_pf9 k x from (if_neg z).symm))
theorem xt_c4 {x : Int32} : xt_ft ((xt_tb.getD 21 []).getD 4 0) x = (x = nI 61) := by
  rw [show (xt_tb.getD 21 []).getD 4 0 = nI 61 by decide +kernel]; exact xt_ft61
theorem xt_c5 {x : Int32} : xt_ft ((xt_tb.getD 21 []).getD 5 0) x = ((nI 48 ≤ x ∧ x ≤ nI 57) ∨ (nI 97 ≤ x ∧ x ≤ nI 102)) := by
  rw [show (xt_tb.getD 21 []).getD 5 0 = nI 104 by decide +kernel]; exact xt_ft104
theorem xt_c6 {x : Int32} : xt_ft ((xt_tb.getD 21 []).getD 6 0) x = ((nI 48 ≤ x ∧ x ≤ nI 57) ∨ (nI 97 ≤ x ∧ x ≤ nI 102)) := by
  rw [show (xt_tb.getD 21 []).getD 6 0 = nI 104 by decide +kernel]; exact xt_ft104
theorem xt_c0 {x : Int32} : xt_ft ((xt_tb.getD 23 []).getD 0 0) x = (nI 48 ≤ x ∧ x ≤ nI 57) := by
  rw [show (xt_tb.getD 23 []).getD 0 0 = nI 100 by decide +kernel]; exact xt_ft100
theorem xt_fo_c {x : Int32} : (xt_fo x = 21 ∧ x = nI 114) ∨ (xt_fo x = 22 ∧ (x = nI 109 ∨ x = nI 117)) ∨ (xt_fo x = 23 ∧ (x = nI 98 ∨ x = nI 108 ∨ x = nI 116)) ∨ (xt_fo x = 24 ∧ ∀ m, m = 114 ∨ m = 109 ∨ m = 117 ∨ m = 116 ∨ m = 108 ∨ m = 98 → ¬ x = nI m) := by
  unfold xt_fo
  by_cases a : x = nI 114
  · rw [if_pos a]; exact Or.inl ⟨rfl, a⟩
  · rw [if_neg a]
    by_cases b : x = nI 109 ∨ x = nI 117
    · rw [if_pos b]; exact Or.inr (Or.inl ⟨rfl, b⟩)
    · rw [if_neg b]
      by_cases d : x = nI 98 ∨ x = nI 108 ∨ x = nI 116
      · rw [if_pos d]; exact Or.inr (Or.inr (Or.inl ⟨rfl, d⟩))
      · rw [if_neg d]
        refine Or.inr (Or.inr (Or.inr ⟨rfl, fun m hm z => ?_⟩))
        rcases hm with rfl | rfl | rfl | rfl | rfl | rfl
        · exact a z
        · exact b (Or.inl z)
        · exact b (Or.inr z)
        · exact d (Or.inr (Or.inr z))
        · exact d (Or.inr (Or.inl z))
        · exact d (Or.inl z)
theorem ct_item_F {n b : Nat} (hn : S.1 49 8 = nI n) (h60 : n ≤ 60) (ha9 : S.1 49 9 = nI b) (hb9 : b < 900) {i k : Nat} (hi : xt_fo (xt_sg (S.2.1 54) n b) = i) (h24 : i < 24) (hk : xt_fe (S.2.1 54) n i (b + 1) = k) (hkt : k < xt_tl.getD i 0) : xt_Ct E l yX6_item cX6_item 5 (some Jvm.ClassFile.FieldType.int) 3 64 0 0 [.ref (E.1 49)] S (xt_Ep (some (.int (-1))) (fun S9 => ∃ g, S9 = xt_sA (xt_sN S 49 9 (nI (b + 1 + k))) 66 g)) := by
  have hsp : (∀ j, j < xt_fe (S.2.1 54) n i (b + 1) → xt_ft ((xt_tb.getD i []).getD j 0) (xt_sg (S.2.1 54) n (b + 1 + j))) ∧ (xt_fe (S.2.1 54) n i (b + 1) < xt_tl.getD i 0 → ¬ xt_ft ((xt_tb.getD i []).getD (xt_fe (S.2.1 54) n i (b + 1)) 0) (xt_sg (S.2.1 54) n (b + 1 + xt_fe (S.2.1 54) n i (b + 1)))) := xt_pre_sp (P := fun k => xt_ft ((xt_tb.getD i []).getD k 0) (xt_sg (S.2.1 54) n (b + 1 + k))) (xt_tl.getD i 0)
  rw [hk] at hsp
  obtain ⟨f1, f2⟩ := hsp
  have f3 := f2 hkt
  rcases xt_fo_c (x := xt_sg (S.2.1 54) n b) with ⟨hf, hx⟩ | ⟨hf, hx⟩ | ⟨hf, hx⟩ | ⟨hf, hx⟩
  · obtain rfl : i = 21 := hi.symm.trans hf
    have hk7 : k < 7 := hkt
    by_cases k4 : k < 4
    · exact ct_item_p114 hn h60 ha9 hb9 hx k4 (fun j hj => Eq.mp (xt_P4 (Or.inl rfl) (by omega)) (f1 j hj)) (fun z => f3 (Eq.mpr (xt_P4 (Or.inl rfl) k4) z))
    · have h4 : ∀ j, j < 4 → xt_pf9 j (xt_sg (S.2.1 54) n (b + 1 + j)) := fun j hj => Eq.mp (xt_P4 (Or.inl rfl) hj) (f1 j (by omega))
      rcases (by omega : k = 4 ∨ k = 5 ∨ k = 6) with rfl | rfl | rfl
      · exact ct_item_e hn h60 ha9 hb9 hx h4 (fun z => f3 (Eq.mpr xt_c4 z))
      · exact ct_item_h1 hn h60 ha9 hb9 hx h4 (Eq.mp xt_c4 (f1 4 (by decide))) (fun z => f3 (Eq.mpr xt_c5 z))
      · exact ct_item_h2 hn h60 ha9 hb9 hx h4 (Eq.mp xt_c4 (f1 4 (by decide))) (Eq.mp xt_c5 (f1 5 (by decide))) (fun z => f3 (Eq.mpr xt_c6 z))
  · obtain rfl : i = 22 := hi.symm.trans hf
    have k4 : k < 4 := hkt
    rcases hx with hx | hx
    · exact ct_item_p109 hn h60 ha9 hb9 hx k4 (fun j hj => Eq.mp (xt_P4 (Or.inr rfl) (by omega)) (f1 j hj)) (fun z => f3 (Eq.mpr (xt_P4 (Or.inr rfl) k4) z))
    · exact ct_item_p117 hn h60 ha9 hb9 hx k4 (fun j hj => Eq.mp (xt_P4 (Or.inr rfl) (by omega)) (f1 j hj)) (fun z => f3 (Eq.mpr (xt_P4 (Or.inr rfl) k4) z))
  · obtain rfl : i = 23 := hi.symm.trans hf
    have k1 : k < 1 := hkt
    obtain rfl : k = 0 := by omega
    have hd := fun z => f3 (Eq.mpr xt_c0 z)
    rcases hx with hx | hx | hx
    · exact ct_item_d98 hn h60 ha9 hb9 hx hd
    · exact ct_item_d108 hn h60 ha9 hb9 hx hd
    · exact ct_item_d116 hn h60 ha9 hb9 hx hd
  · omega
/-- what speaks against an item that paints -/
theorem xt_why_p {a : Nat → Int32} {n b c r : Nat} (h : xt_so (xt_sg a n b) < 0) : (xt_wc c r (xt_sg a n (b + 1) - nI 97) (xt_sg a n (b + 2) - nI 65) (xt_sg a n (b + 3) - nI 97) (xt_sg a n (b + 4) - nI 65) = 0 ∧ xt_why a n b c r = -1) ∨ (¬ xt_wc c r (xt_sg a n (b + 1) - nI 97) (xt_sg a n (b + 2) - nI 65) (xt_sg a n (b + 3) - nI 97) (xt_sg a n (b + 4) - nI 65) = 0 ∧ xt_why a n b c r = xt_wc c r (xt_sg a n (b + 1) - nI 97) (xt_sg a n (b + 2) - nI 65) (xt_sg a n (b + 3) - nI 97) (xt_sg a n (b + 4) - nI 65)) := by
  unfold xt_why
  rw [if_pos h]
  generalize xt_sg a n (b + 1) - nI 97 = x0
  generalize xt_sg a n (b + 2) - nI 65 = x1
  generalize xt_sg a n (b + 3) - nI 97 = x2
  generalize xt_sg a n (b + 4) - nI 65 = x3
  unfold xt_wc
  by_cases p1 : xt_pix c r x0 x1
  · rw [if_neg (not_not_intro p1)]
    by_cases p2 : xt_pix c r x2 x3
    · rw [if_neg (not_not_intro p2), if_pos ⟨p1, p2⟩]
      by_cases q1 : x2 < x0
      · rw [if_pos q1, if_neg (fun z => absurd q1 (Int32.not_lt.mpr z.1))]
        exact Or.inr ⟨by decide, rfl⟩
      · rw [if_neg q1]
        by_cases q2 : x1 ≤ x3
        · rw [if_pos q2, if_pos ⟨Int32.not_lt.mp q1, q2⟩]
          exact Or.inl ⟨rfl, rfl⟩
        · rw [if_neg q2, if_neg (fun z => q2 z.2)]
          exact Or.inr ⟨by decide, rfl⟩
    · rw [if_pos p2, if_neg (fun z => p2 z.2)]
      exact Or.inr ⟨by decide, rfl⟩
  · rw [if_pos p1, if_neg (fun z => p1 z.1)]
    exact Or.inr ⟨by decide, rfl⟩
theorem xt_wc_0 {c r : Nat} {x0 x1 x2 x3 : Int32} (hc : c ≤ 16) (hr : r ≤ 16) (h : xt_wc c r x0 x1 x2 x3 = 0) : ∃ lf tp w h, lf + w ≤ c ∧ tp + h ≤ r ∧ 0 < w ∧ 0 < h ∧ x0 = nI lf ∧ x1 = nI tp ∧ x2 = nI (lf + w - 1) ∧ x3 = nI (tp + h - 1) := by
  unfold xt_wc at h
  by_cases p : xt_pix c r x0 x1 ∧ xt_pix c r x2 x3
  · rw [if_pos p] at h
    by_cases q : x0 ≤ x2 ∧ x1 ≤ x3
    · obtain ⟨⟨⟨i0, h0, rfl⟩, i1, h1, rfl⟩, ⟨i2, h2, rfl⟩, i3, h3, rfl⟩ := p
      have q1 := (nI_leI (by omega) (by omega)).mp q.1
      have q2 := (nI_leI (by omega) (by omega)).mp q.2
      exact ⟨i0, i1, i2 + 1 - i0, i3 + 1 - i1, by omega, by omega, by omega, by omega, rfl, rfl, congrArg nI (by omega), congrArg nI (by omega)⟩
    · rw [if_neg q] at h
      exact absurd h (by decide)
  · rw [if_neg p] at h
    exact absurd h (by decide)
theorem xt_hxd {x : Int32} (h : x ≤ nI 57) : xt_hx x = x - nI 48 := if_neg (Int32.not_lt.mpr h)
theorem xt_so_c : xt_so (nI 116) = nI 0 ∧ xt_so (nI 108) = nI 1 ∧ xt_so (nI 98) = nI 2 ∧ xt_so (nI 114) < 0 ∧ xt_so (nI 109) < 0 ∧ xt_so (nI 117) < 0 := by decide +kernel
theorem xt_why_s {a : Nat → Int32} {n b c r j : Nat} (h : xt_so (xt_sg a n b) = nI j) (hj : j < 3) (hd : xt_sg a n (b + 1) ≤ nI 57) : (xt_set (nI j) (xt_sg a n (b + 1) - nI 48) ∧ xt_why a n b c r = -1) ∨ (¬ xt_set (nI j) (xt_sg a n (b + 1) - nI 48) ∧ xt_why a n b c r = nI 3) := by
  unfold xt_why
  rw [h, if_neg (nI_pos (by omega)), xt_hxd hd]
  by_cases q : xt_set (nI j) (xt_sg a n (b + 1) - nI 48)
  · rw [if_pos q]; exact Or.inl ⟨q, rfl⟩
  · rw [if_neg q]; exact Or.inr ⟨q, rfl⟩
/-- an item done to the values o gives W -/
def xt_apm (a : Nat → Int32) (n b c : Nat) (o W : Nat → Int32) : Prop :=
  (∃ j, j < 3 ∧ xt_so (xt_sg a n b) = nI j ∧ W = upd o (2 + j) (xt_hx (xt_sg a n (b + 1)))) ∨
  (xt_so (xt_sg a n b) < 0 ∧ ∃ lf tp w h, lf + w ≤ c ∧ tp + h ≤ 16 ∧ 0 < w ∧ 0 < h ∧ xt_sg a n (b + 1) - nI 97 = nI lf ∧ xt_sg a n (b + 2) - nI 65 = nI tp ∧ xt_sg a n (b + 3) - nI 97 = nI (lf + w - 1) ∧ xt_sg a n (b + 4) - nI 65 = nI (tp + h - 1) ∧
    ((xt_sg a n b = nI 114 ∧ xt_fl9 5 W (xt_paint c lf tp w h (nI 16 * xt_hx (xt_sg a n (b + 6)) + xt_hx (xt_sg a n (b + 7))) (fun j => o (5 + j))).1 o) ∨
     (xt_sg a n b = nI 109 ∧ xt_fl9 261 W (xt_paint c lf tp w h (nI 1) (fun j => o (261 + j))).1 o) ∨
     (xt_sg a n b = nI 117 ∧ xt_fl9 261 W (xt_paint c lf tp w h (nI 0) (fun j => o (261 + j))).1 o)))
theorem ct_item_W {n b : Nat} (hn : S.1 49 8 = nI n) (h60 : n ≤ 60) (ha9 : S.1 49 9 = nI b) (hb9 : b < 900) {c r sd lv bo : Nat} (hM : xt_Mp S c r sd lv bo) {i : Nat} (hi : xt_fo (xt_sg (S.2.1 54) n b) = i) (h24 : i < 24) (hk : xt_fe (S.2.1 54) n i (b + 1) = xt_tl.getD i 0) {R : Int32} (hR : xt_why (S.2.1 54) n b c r = R) (hR0 : ¬ R = -1) : xt_Ct E l yX6_item cX6_item 5 (some Jvm.ClassFile.FieldType.int) 3 64 0 0 [.ref (E.1 49)] S (xt_Ep (some (.int R)) (fun S9 => ∃ g, S9 = xt_sA (xt_sN S 49 9 (nI (b + 1 + xt_tl.getD i 0))) 66 g)) := by
  have hsp : ∀ j, j < xt_fe (S.2.1 54) n i (b + 1) → xt_ft ((xt_tb.getD i []).getD j 0) (xt_sg (S.2.1 54) n (b + 1 + j)) := (xt_pre_sp (P := fun k => xt_ft ((xt_tb.getD i []).getD k 0) (xt_sg (S.2.1 54) n (b + 1 + k))) (xt_tl.getD i 0)).1
  rw [hk] at hsp
  have hM9 := hM
  obtain ⟨-, -, -, -, -, b1, b2, b3, b4, b5, b6, b7⟩ := hM9
  rcases xt_fo_c (x := xt_sg (S.2.1 54) n b) with ⟨hf, hx⟩ | ⟨hf, hx⟩ | ⟨hf, hx⟩ | ⟨hf, hx⟩
  · obtain rfl : i = 21 := hi.symm.trans hf
    have h4 : ∀ j, j < 4 → xt_pf9 j (xt_sg (S.2.1 54) n (b + 1 + j)) := fun j hj => Eq.mp (xt_P4 (Or.inl rfl) hj) (hsp j (show j < 7 by omega))
    have g4 := Eq.mp xt_c4 (hsp 4 (show 4 < 7 by omega))
    have g5 := Eq.mp xt_c5 (hsp 5 (show 5 < 7 by omega))
    have g6 := Eq.mp xt_c6 (hsp 6 (show 6 < 7 by omega))
    have hso : xt_so (xt_sg (S.2.1 54) n b) < 0 := by rw [hx]; exact xt_so_c.2.2.2.1
    rcases xt_why_p (c := c) (r := r) hso with ⟨_, e9⟩ | ⟨hW, e9⟩
    · exact absurd (hR.symm.trans e9) hR0
    · obtain rfl := e9.symm.trans hR
      exact ct_item_w114 hn h60 ha9 hb9 hx hM h4 g4 g5 g6 rfl rfl rfl rfl hW
  · obtain rfl : i = 22 := hi.symm.trans hf
    have h4 : ∀ j, j < 4 → xt_pf9 j (xt_sg (S.2.1 54) n (b + 1 + j)) := fun j hj => Eq.mp (xt_P4 (Or.inr rfl) hj) (hsp j (show j < 4 by omega))
    rcases hx with hx | hx
    · have hso : xt_so (xt_sg (S.2.1 54) n b) < 0 := by rw [hx]; exact xt_so_c.2.2.2.2.1
      rcases xt_why_p (c := c) (r := r) hso with ⟨_, e9⟩ | ⟨hW, e9⟩
      · exact absurd (hR.symm.trans e9) hR0
      · obtain rfl := e9.symm.trans hR
        exact ct_item_w109 hn h60 ha9 hb9 hx hM h4 rfl rfl rfl rfl hW
    · have hso : xt_so (xt_sg (S.2.1 54) n b) < 0 := by rw [hx]; exact xt_so_c.2.2.2.2.2
      rcases xt_why_p (c := c) (r := r) hso with ⟨_, e9⟩ | ⟨hW, e9⟩
      · exact absurd (hR.symm.trans e9) hR0
      · obtain rfl := e9.symm.trans hR
        exact ct_item_w117 hn h60 ha9 hb9 hx hM h4 rfl rfl rfl rfl hW
  · obtain rfl : i = 23 := hi.symm.trans hf
    have hd := Eq.mp xt_c0 (hsp 0 (show 0 < 1 by omega))
    rcases hx with hx | hx | hx
    · have hso : xt_so (xt_sg (S.2.1 54) n b) = nI 2 := by rw [hx]; exact xt_so_c.2.2.1
      rcases xt_why_s (c := c) (r := r) hso (by decide) hd.2 with ⟨_, e9⟩ | ⟨hs, e9⟩
      · exact absurd (hR.symm.trans e9) hR0
      · obtain rfl := e9.symm.trans hR
        exact ct_item_x98 hn h60 ha9 hb9 hx hd hs
    · have hso : xt_so (xt_sg (S.2.1 54) n b) = nI 1 := by rw [hx]; exact xt_so_c.2.1
      rcases xt_why_s (c := c) (r := r) hso (by decide) hd.2 with ⟨_, e9⟩ | ⟨hs, e9⟩
      · exact absurd (hR.symm.trans e9) hR0
      · obtain rfl := e9.symm.trans hR
        exact ct_item_x108 hn h60 ha9 hb9 hx hd hs
    · have hso : xt_so (xt_sg (S.2.1 54) n b) = nI 0 := by rw [hx]; exact xt_so_c.1
      rcases xt_why_s (c := c) (r := r) hso (by decide) hd.2 with ⟨_, e9⟩ | ⟨hs, e9⟩
      · exact absurd (hR.symm.trans e9) hR0
      · obtain rfl := e9.symm.trans hR
        exact ct_item_x116 hn h60 ha9 hb9 hx hd hs
  · omega
theorem xt_Ct_w {y : MethodName} {cc : ByteArray} {nL fr lw k n : Nat} {ret : Option FieldType} {av : List Value} {Q Q' : Option Value → xt_St → Prop} (h : xt_Ct E l y cc nL ret fr lw k n av S Q) (hQ : ∀ v S9, Q v S9 → Q' v S9) : xt_Ct E l y cc nL ret fr lw k n av S Q' :=
  by
  intro p e ha hc hk s m args below hf happ hP hK
  obtain ⟨n9, o, h1, h2, h3, h4⟩ := h p e ha hc hk s m args below hf happ hP hK
  obtain ⟨⟨⟨v, S9, g1, g2, g3⟩, g4⟩, g5⟩ := h4
  exact ⟨n9, o, h1, h2, h3, ⟨⟨v, S9, g1, hQ v S9 g2, g3⟩, g4⟩, g5⟩
def xt_itO (S : xt_St) (n b c q : Nat) (S9 : xt_St) : Prop := ∃ g W, S9 = xt_sA (xt_sA (xt_sN S 49 9 (nI q)) 66 g) 53 W ∧ xt_apm (S.2.1 54) n b c (S.2.1 53) W
theorem ct_item_O {n b : Nat} (hn : S.1 49 8 = nI n) (h60 : n ≤ 60) (ha9 : S.1 49 9 = nI b) (hb9 : b < 900) {c r sd lv bo : Nat} (hM : xt_Mp S c r sd lv bo) {i : Nat} (hi : xt_fo (xt_sg (S.2.1 54) n b) = i) (h24 : i < 24) (hk : xt_fe (S.2.1 54) n i (b + 1) = xt_tl.getD i 0) (hR : xt_why (S.2.1 54) n b c r = -1) (ht0 : S.2.1 53 0 = nI c) : xt_Ct E l yX6_item cX6_item 5 (some Jvm.ClassFile.FieldType.int) 3 64 0 0 [.ref (E.1 49)] S (xt_Ep (some (.int (nI 0))) (xt_itO S n b c (b + 1 + xt_tl.getD i 0))) := by
  have hsp : ∀ j, j < xt_fe (S.2.1 54) n i (b + 1) → xt_ft ((xt_tb.getD i []).getD j 0) (xt_sg (S.2.1 54) n (b + 1 + j)) := (xt_pre_sp (P := fun k => xt_ft ((xt_tb.getD i []).getD k 0) (xt_sg (S.2.1 54) n (b + 1 + k))) (xt_tl.getD i 0)).1
  rw [hk] at hsp
  have hM9 := hM
  obtain ⟨-, -, -, -, -, b1, b2, b3, b4, b5, b6, b7⟩ := hM9
  rcases xt_fo_c (x := xt_sg (S.2.1 54) n b) with ⟨hf, hx⟩ | ⟨hf, hx⟩ | ⟨hf, hx⟩ | ⟨hf, hx⟩
  · obtain rfl : i = 21 := hi.symm.trans hf
    have h4 : ∀ j, j < 4 → xt_pf9 j (xt_sg (S.2.1 54) n (b + 1 + j)) := fun j hj => Eq.mp (xt_P4 (Or.inl rfl) hj) (hsp j (show j < 7 by omega))
    have g4 := Eq.mp xt_c4 (hsp 4 (show 4 < 7 by omega))
    have g5 := Eq.mp xt_c5 (hsp 5 (show 5 < 7 by omega))
    have g6 := Eq.mp xt_c6 (hsp 6 (show 6 < 7 by omega))
    have hso : xt_so (xt_sg (S.2.1 54) n b) < 0 := by rw [hx]; exact xt_so_c.2.2.2.1
    rcases xt_why_p (c := c) (r := r) hso with ⟨hW, _⟩ | ⟨hW, e9⟩
    · obtain ⟨lf, tp, w, h, q1, q2, q3, q4, e0, e1, e2, e3⟩ := xt_wc_0 b2 b4 hW
      refine xt_Ct_w (ct_item_o114 hn h60 ha9 hb9 hx hM h4 g4 g5 g6 q1 q2 q3 q4 ht0 e0 e1 e2 e3) (fun v S9 h9 => ?_)
      obtain ⟨h1, g, W, h2, h3⟩ := h9
      exact ⟨h1, g, W, h2, Or.inr ⟨hso, lf, tp, w, h, q1, by omega, q3, q4, e0, e1, e2, e3, Or.inl ⟨hx, h3⟩⟩⟩
    · exact absurd (e9.symm.trans hR) (fun z => by
        unfold xt_wc at z
        split at z
        · split at z
          · exact absurd z (by decide)
          · exact absurd z (by decide)
        · exact absurd z (by decide))
  · obtain rfl : i = 22 := hi.symm.trans hf
    have h4 : ∀ j, j < 4 → xt_pf9 j (xt_sg (S.2.1 54) n (b + 1 + j)) := fun j hj => Eq.mp (xt_P4 (Or.inr rfl) hj) (hsp j (show j < 4 by omega))
    rcases hx with hx | hx
    · have hso : xt_so (xt_sg (S.2.1 54) n b) < 0 := by rw [hx]; exact xt_so_c.2.2.2.2.1
      rcases xt_why_p (c := c) (r := r) hso with ⟨hW, _⟩ | ⟨hW, e9⟩
      · obtain ⟨lf, tp, w, h, q1, q2, q3, q4, e0, e1, e2, e3⟩ := xt_wc_0 b2 b4 hW
        refine xt_Ct_w (ct_item_o109 hn h60 ha9 hb9 hx hM h4 q1 q2 q3 q4 ht0 e0 e1 e2 e3) (fun v S9 h9 => ?_)
        obtain ⟨h1, g, W, h2, h3⟩ := h9
        exact ⟨h1, g, W, h2, Or.inr ⟨hso, lf, tp, w, h, q1, by omega, q3, q4, e0, e1, e2, e3, Or.inr (Or.inl ⟨hx, h3⟩)⟩⟩
      · exact absurd (e9.symm.trans hR) (fun z => by
          unfold xt_wc at z
          split at z
          · split at z
            · exact absurd z (by decide)
            · exact absurd z (by decide)
          · exact absurd z (by decide))
    · have hso : xt_so (xt_sg (S.2.1 54) n b) < 0 := by rw [hx]; exact xt_so_c.2.2.2.2.2
      rcases xt_why_p (c := c) (r := r) hso with ⟨hW, _⟩ | ⟨hW, e9⟩
      · obtain ⟨lf, tp, w, h, q1, q2, q3, q4, e0, e1, e2, e3⟩ := xt_wc_0 b2 b4 hW
        refine xt_Ct_w (ct_item_o117 hn h60 ha9 hb9 hx hM h4 q1 q2 q3 q4 ht0 e0 e1 e2 e3) (fun v S9 h9 => ?_)
        obtain ⟨h1, g, W, h2, h3⟩ := h9
        exact ⟨h1, g, W, h2, Or.inr ⟨hso, lf, tp, w, h, q1, by omega, q3, q4, e0, e1, e2, e3, Or.inr (Or.inr ⟨hx, h3⟩)⟩⟩
      · exact absurd (e9.symm.trans hR) (fun z => by
          unfold xt_wc at z
          split at z
          · split at z
            · exact absurd z (by decide)
            · exact absurd z (by decide)
          · exact absurd z (by decide))
  · obtain rfl : i = 23 := hi.symm.trans hf
    have hd := Eq.mp xt_c0 (hsp 0 (show 0 < 1 by omega))
    rcases hx with hx | hx | hx
    · have hso : xt_so (xt_sg (S.2.1 54) n b) = nI 2 := by rw [hx]; exact xt_so_c.2.2.1
      rcases xt_why_s (c := c) (r := r) hso (by decide) hd.2 with ⟨hs, _⟩ | ⟨_, e9⟩
      · refine xt_Ct_w (ct_item_s98 hn h60 ha9 hb9 hx hd hs) (fun v S9 h9 => ?_)
        obtain ⟨h1, g, W, h2, h3⟩ := h9
        exact ⟨h1, g, W, h2, Or.inl ⟨2, by decide, hso, by rw [h3, xt_hxd hd.2]⟩⟩
      · exact absurd (e9.symm.trans hR) (by decide)
    · have hso : xt_so (xt_sg (S.2.1 54) n b) = nI 1 := by rw [hx]; exact xt_so_c.2.1
      rcases xt_why_s (c := c) (r := r) hso (by decide) hd.2 with ⟨hs, _⟩ | ⟨_, e9⟩
      · refine xt_Ct_w (ct_item_s108 hn h60 ha9 hb9 hx hd hs) (fun v S9 h9 => ?_)
        obtain ⟨h1, g, W, h2, h3⟩ := h9
        exact ⟨h1, g, W, h2, Or.inl ⟨1, by decide, hso, by rw [h3, xt_hxd hd.2]⟩⟩
      · exact absurd (e9.symm.trans hR) (by decide)
    · have hso : xt_so (xt_sg (S.2.1 54) n b) = nI 0 := by rw [hx]; exact xt_so_c.1
      rcases xt_why_s (c := c) (r := r) hso (by decide) hd.2 with ⟨hs, _⟩ | ⟨_, e9⟩
      · refine xt_Ct_w (ct_item_s116 hn h60 ha9 hb9 hx hd hs) (fun v S9 h9 => ?_)
        obtain ⟨h1, g, W, h2, h3⟩ := h9
        exact ⟨h1, g, W, h2, Or.inl ⟨0, by decide, hso, by rw [h3, xt_hxd hd.2]⟩⟩
      · exact absurd (e9.symm.trans hR) (by decide)
  · omega
end XM22
