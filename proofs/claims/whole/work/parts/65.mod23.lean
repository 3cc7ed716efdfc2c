/-! THE MODEL: read -/
section XM23
variable {E : xt_Ev} {l : Launch} {S : xt_St}
theorem xt_sA_c {T : xt_St} {i j : Nat} {f h : Nat → Int32} (hij : j ≠ i) : xt_sA (xt_sA T i f) j h = xt_sA (xt_sA T j h) i f := by
  unfold xt_sA
  refine congrArg (fun q => (T.1, q, T.2.2)) (funext fun a => ?_)
  dsimp only
  by_cases e : a = j
  · rw [if_pos e, if_neg (by omega), if_pos e]
  · rw [if_neg e]
    by_cases e2 : a = i
    · rw [if_pos e2, if_pos e2]
    · rw [if_neg e2, if_neg e2, if_neg e]
/-- reading: the place is b, the corner's numbers g, the values tried W -/
def xt_RD (S : xt_St) (b : Nat) (g W : Nat → Int32) : xt_St := xt_sA (xt_sA (xt_sN (xt_sN S 49 0 (nI 0)) 49 9 (nI b)) 66 g) 53 W
theorem xt_RD_n {b q : Nat} {g W : Nat → Int32} : xt_sN (xt_RD S b g W) 49 9 (nI q) = xt_RD S q g W := by
  unfold xt_RD
  rw [show xt_sN (xt_sA (xt_sA (xt_sN (xt_sN S 49 0 (nI 0)) 49 9 (nI b)) 66 g) 53 W) 49 9 (nI q) = xt_sA (xt_sA (xt_sN (xt_sN (xt_sN S 49 0 (nI 0)) 49 9 (nI b)) 49 9 (nI q)) 66 g) 53 W from rfl, xt_s2_s]
theorem xt_RD_1 {b q : Nat} {g W g' : Nat → Int32} : xt_sA (xt_sN (xt_RD S b g W) 49 9 (nI q)) 66 g' = xt_RD S q g' W := by
  rw [xt_RD_n]
  unfold xt_RD
  rw [xt_sA_c (i := 53) (j := 66) (by decide), xt_sA_sA]
theorem xt_RD_2 {b q : Nat} {g W g' W' : Nat → Int32} : xt_sA (xt_sA (xt_sN (xt_RD S b g W) 49 9 (nI q)) 66 g') 53 W' = xt_RD S q g' W' := by
  rw [xt_RD_1]
  unfold xt_RD
  rw [xt_sA_sA]
theorem xt_RD_9 {b : Nat} {g W : Nat → Int32} : (xt_RD S b g W).1 49 9 = nI b := by
  show (xt_sN (xt_sN S 49 0 (nI 0)) 49 9 (nI b)).1 49 9 = nI b
  exact xt_s2_v
theorem xt_RD_8 {b n f : Nat} {g W : Nat → Int32} (hf : f ≠ 0 ∧ f ≠ 9) (h : S.1 49 f = nI n) : (xt_RD S b g W).1 49 f = nI n := by
  show (xt_sN (xt_sN S 49 0 (nI 0)) 49 9 (nI b)).1 49 f = nI n
  rw [xt_sN_o (by omega), xt_sN_o (by omega)]
  exact h
theorem xt_RD_54 {b i : Nat} {g W : Nat → Int32} (h : i ≠ 66 ∧ i ≠ 53) : (xt_RD S b g W).2.1 i = S.2.1 i := by
  unfold xt_RD
  rw [xt_sA_n h.2, xt_sA_n h.1]
  rfl
theorem xt_RD_53 {b : Nat} {g W : Nat → Int32} : (xt_RD S b g W).2.1 53 = W := xt_sA_s
theorem xt_RD_M {b c r sd lv bo : Nat} {g W : Nat → Int32} (hM : xt_Mp S c r sd lv bo) : xt_Mp (xt_RD S b g W) c r sd lv bo := by
  unfold xt_Mp at hM ⊢
  rw [xt_RD_54 (by decide)]
  exact hM
theorem xt_why_v {a : Nat → Int32} {n b c r : Nat} : xt_why a n b c r = -1 ∨ ∃ m, 1 ≤ m ∧ m ≤ 3 ∧ xt_why a n b c r = nI m := by
  unfold xt_why
  split
  · split
    · exact Or.inr ⟨1, by decide, by decide, rfl⟩
    · split
      · exact Or.inr ⟨1, by decide, by decide, rfl⟩
      · split
        · exact Or.inr ⟨2, by decide, by decide, rfl⟩
        · split
          · exact Or.inl rfl
          · exact Or.inr ⟨2, by decide, by decide, rfl⟩
  · split
    · exact Or.inl rfl
    · exact Or.inr ⟨3, by decide, by decide, rfl⟩
/-- the first m items done, one behind another -/
def xt_chn (a : Nat → Int32) (n c : Nat) (st : Nat → Nat) (o : Nat → Int32) : Nat → (Nat → Int32) → Prop
  | 0, W => W = o
  | m + 1, W => ∃ W1, xt_chn a n c st o m W1 ∧ xt_apm a n (st m) c W1 W
theorem xt_chn_c {a : Nat → Int32} {n c : Nat} {st st' : Nat → Nat} {o : Nat → Int32} : ∀ m W, (∀ j, j < m → st j = st' j) → xt_chn a n c st o m W → xt_chn a n c st' o m W := by
  intro m
  induction m with
  | zero => exact fun W _ h => h
  | succ m ih =>
    intro W he h
    obtain ⟨W1, h1, h2⟩ := h
    exact ⟨W1, ih W1 (fun j hj => he j (by omega)) h1, by rw [← he m (by omega)]; exact h2⟩
theorem xt_apm_0 {a : Nat → Int32} {n b c : Nat} {o W : Nat → Int32} (h : xt_apm a n b c o W) : W 0 = o 0 := by
  rcases h with ⟨j, hj, _, rfl⟩ | ⟨_, lf, tp, w, h, _, _, _, _, _, _, _, _, h9⟩
  · exact xt_up_n (by omega)
  · rcases h9 with ⟨_, h9⟩ | ⟨_, h9⟩ | ⟨_, h9⟩
    · exact h9.2 0 (by omega)
    · exact h9.2 0 (by omega)
    · exact h9.2 0 (by omega)
/-- what the items so far have said: m the first reason (0 none), i3 its item -/
def xt_rs (a : Nat → Int32) (n c r : Nat) (st : Nat → Nat) (o : Nat → Int32) (it m i3 : Nat) (W : Nat → Int32) : Prop :=
  (m = 0 ∧ (∀ j, j < it → xt_why a n (st j) c r = -1) ∧ xt_chn a n c st o it W) ∨ (1 ≤ m ∧ m ≤ 3 ∧ i3 < it ∧ xt_why a n (st i3) c r = nI m ∧ ∀ j, j < i3 → xt_why a n (st j) c r = -1)
def xt_nst (st : Nat → Nat) (it b : Nat) : Nat → Nat := fun j => if j = it then b else st j
theorem xt_nst_s {st : Nat → Nat} {it b : Nat} : xt_nst st it b it = b := if_pos rfl
theorem xt_nst_n {st : Nat → Nat} {it b j : Nat} (h : j < it) : xt_nst st it b j = st j := if_neg (by omega)
section RS
variable {a : Nat → Int32} {n c r it m i3 b : Nat} {st : Nat → Nat} {o W W' : Nat → Int32}
theorem xt_rs_o (h : xt_rs a n c r st o it m i3 W) (hw : xt_why a n b c r = -1) (hp : xt_apm a n b c W W') : xt_rs a n c r (xt_nst st it b) o (it + 1) m i3 W' := by
  rcases h with ⟨h1, h2, h3⟩ | ⟨h1, h2, h3, h4, h5⟩
  · refine Or.inl ⟨h1, fun j hj => ?_, W, xt_chn_c it W (fun j hj => (xt_nst_n hj).symm) h3, by rw [xt_nst_s]; exact hp⟩
    by_cases e : j = it
    · rw [e, xt_nst_s]; exact hw
    · rw [xt_nst_n (by omega)]; exact h2 j (by omega)
  · exact Or.inr ⟨h1, h2, by omega, by rw [xt_nst_n h3]; exact h4, fun j hj => by rw [xt_nst_n (by omega)]; exact h5 j hj⟩
theorem xt_rs_w0 {m' : Nat} (h : xt_rs a n c r st o it m i3 W) (hm : m = 0) (hw : xt_why a n b c r = nI m') (h1 : 1 ≤ m') (h3 : m' ≤ 3) : xt_rs a n c r (xt_nst st it b) o (it + 1) m' it W' := by
  rcases h with ⟨_, h2, _⟩ | ⟨h9, _⟩
  · exact Or.inr ⟨h1, h3, by omega, by rw [xt_nst_s]; exact hw, fun j hj => by rw [xt_nst_n hj]; exact h2 j hj⟩
  · omega
theorem xt_rs_w1 (h : xt_rs a n c r st o it m i3 W) (hm : 0 < m) : xt_rs a n c r (xt_nst st it b) o (it + 1) m i3 W' := by
  rcases h with ⟨h9, _⟩ | ⟨h1, h2, h3, h4, h5⟩
  · omega
  · exact Or.inr ⟨h1, h2, by omega, by rw [xt_nst_n h3]; exact h4, fun j hj => by rw [xt_nst_n (by omega)]; exact h5 j hj⟩
end RS
def xt_nq (q : Nat → Int32) (it b : Nat) : Nat → Int32 := if it < 20 then upd q it (nI b) else q
theorem xt_nq_s {q : Nat → Int32} {st : Nat → Nat} {it b : Nat} (h20 : it < 20) (h : ∀ j, j < it → q j = nI (st j)) : ∀ j, j < it + 1 → xt_nq q it b j = nI (xt_nst st it b j) := by
  intro j hj
  unfold xt_nq
  rw [if_pos h20]
  by_cases e : j = it
  · rw [e, xt_up_s, xt_nst_s]
  · rw [xt_up_n e, xt_nst_n (by omega)]
    exact h j (by omega)
theorem xt_nq_t {q : Nat → Int32} {st : Nat → Nat} {it b : Nat} (h20 : it < 20) (hb : b < 1000) (h : ∀ j, j < it → q j = nI (st j) ∧ st j < 1000) : ∀ j, j < it + 1 → xt_nq q it b j = nI (xt_nst st it b j) ∧ xt_nst st it b j < 1000 := by
  intro j hj
  refine ⟨xt_nq_s h20 (fun j hj => (h j hj).1) j hj, ?_⟩
  unfold xt_nst
  by_cases e : j = it
  · simp [e]; exact hb
  · simp [e]; exact (h j (by omega)).2
theorem xt_tl1 {i : Nat} (h1 : 21 ≤ i) (h2 : i < 24) : 1 ≤ xt_tl.getD i 0 ∧ xt_tl.getD i 0 ≤ 7 := by
  rcases (by omega : i = 21 ∨ i = 22 ∨ i = 23) with rfl | rfl | rfl <;> decide +kernel
theorem xt_dn1 {a : Nat → Int32} {n c r it m i3 : Nat} {st : Nat → Nat} {o W : Nat → Int32} {P : Prop} (h : xt_rs a n c r st o it m i3 W) (hm : 0 < m) (hp : 1 ≤ m → m ≤ 3 → i3 < it → xt_why a n (st i3) c r = nI m → (∀ j, j < i3 → xt_why a n (st j) c r = -1) → P) : P := by
  rcases h with ⟨h9, _⟩ | ⟨r1, r2, r3, r4, r5⟩
  · omega
  · exact hp r1 r2 r3 r4 r5
theorem xt_dn0 {a : Nat → Int32} {n c r it m i3 : Nat} {st : Nat → Nat} {o W : Nat → Int32} (h : xt_rs a n c r st o it m i3 W) (hm : m = 0) : (∀ j, j < it → xt_why a n (st j) c r = -1) ∧ xt_chn a n c st o it W := by
  rcases h with ⟨_, h2, h3⟩ | ⟨h9, _⟩
  · exact ⟨h2, h3⟩
  · omega
theorem xt_m1 {m : Nat} (h : m ≤ 3) : ¬ nI m = -1 := co_dec (N := 4) (P := fun m => ¬ nI m = -1) (by decide +kernel) (show m < 4 by omega)
set_option maxRecDepth 20000 in
set_option maxHeartbeats 2000000 in
theorem ct_mread {Q : Option Value → xt_St → Prop} {c r sd lv bo : Nat} (hM : xt_Mp S c r sd lv bo) {n : Nat} (hn : S.1 49 8 = nI n) (h60 : n ≤ 60) {kp : Nat} (hu : S.1 49 3 = nI kp) (hk8 : kp ≤ 8) {q0 : Nat → Int32} {R : Int32 × Nat × (Nat → Int32)} (hR : xt_fl (S.2.1 54) n 60 0 0 q0 = R) (hq1 : ∀ (b : Nat) (g W : Nat → Int32), R.1 = nI b → b < 1000 → Q (some (.int (nI 0))) (xt_sN (xt_sN (xt_sN (xt_RD S b g W) 49 10 (nI b)) 49 8 (nI 0)) 49 0 (nI 1))) (hq2 : ∀ (b : Nat) (g W : Nat → Int32) (st : Nat → Nat) (m i3 : Nat), R.1 = -1 → (∀ j, j < R.2.1 → R.2.2 j = nI (st j) ∧ st j < 1000) → 1 ≤ m → m ≤ 3 → i3 < R.2.1 → xt_why (S.2.1 54) n (st i3) c r = nI m → (∀ j, j < i3 → xt_why (S.2.1 54) n (st j) c r = -1) → Q (some (.int (nI 0))) (xt_sN (xt_sN (xt_sN (xt_sN (xt_RD S b g W) 49 8 (nI 0)) 49 11 (nI m)) 49 12 (nI i3)) 49 0 (nI (xt_rc m)))) (hq3 : ∀ (b : Nat) (g W : Nat → Int32) (st : Nat → Nat) (o V : Nat → Int32), R.1 = -1 → (∀ j, j < R.2.1 → R.2.2 j = nI (st j) ∧ st j < 1000) → (∀ j, j < R.2.1 → xt_why (S.2.1 54) n (st j) c r = -1) → (∀ j, j < 517 → o j = S.2.1 50 j) → xt_chn (S.2.1 54) n c st o R.2.1 W → (∀ j, j < 517 → V j = W j) → Q (some (.int (nI R.2.1))) (xt_sA (xt_chg (xt_sN (xt_RD S b g W) 49 8 (nI 0)) kp) 50 V)) : xt_Ct E l yX6_read cX6_read 6 (some Jvm.ClassFile.FieldType.int) 4 88 0 0 [.ref (E.1 49)] S Q := by
  refine xt_body (by decide +kernel) (xt_all rfl) (Nat.le_of_ble_eq_true rfl) (fun cx C hl9 => ?_)
  show xt_X E cx _ 0 0 0 [some (.ref (E.1 49)), none, none, none, none, none] [] S
  have hM9 := hM
  obtain ⟨hc, hr, hs, hv, hb, b1, b2, b3, b4, b5, b6, b7⟩ := hM
  have ex46 : ∀ (it m i3 b : Nat) (st : Nat → Nat) (q g W o : Nat → Int32), ((-1 : Int32), it, q) = R → it ≤ 20 → (∀ j, j < 517 → o j = S.2.1 50 j) → (∀ j, j < it → q j = nI (st j) ∧ st j < 1000) → W 0 = nI c → (xt_rs (S.2.1 54) n c r st o it m i3 W) → m ≤ 3 → xt_X E cx (xt_ZM E cx 0 0 Q) 0 0 46 [some (.ref (E.1 49)), some (.int (nI it)), some (.int (nI m)), some (.int (nI i3)), some (.int (nI 0)), none] [] (xt_RD S b g W) := by
    intro it m i3 b st q g W o hRe hit ho hst hW0 hrs hm3
    refine xt_iload C dX6_read_46 rfl ?_
    refine xt_if_eqN (tgt := 124) C dX6_read_48 (by decide) (by omega) (fun c48 => ?_) (fun c48 => ?_)
    · refine xt_aload_n C dX6_read_124 rfl ?_
      refine xt_iconst (v := nI 0) C dX6_read_125 rfl ?_
      refine xt_put (f := 8) C xt_u6 rfl (by decide) (xt_cl49 _ _) (by decide) tyX6 tyX6_ok nmX6 lkX6_155 rfl (tyX6_ok 8 (by decide)) rfl rfl (Nat.le_of_ble_eq_true rfl) rfl dX6_read_126 ?_
      refine xt_iload_n C dX6_read_129 rfl ?_
      refine xt_if_leN (tgt := 140) C dX6_read_130 (by decide) (by omega) (fun c130 => ?_) (fun c130 => ?_)
      · have hm0 : m = 0 := by omega
        refine xt_aload_n C dX6_read_140 rfl ?_
        refine xt_cVn C mv_X6_changes lkX6_145 (ct_changes (S := (xt_sN (xt_RD S b g W) 49 8 (nI 0))) ((xt_sN_o (by omega)).trans (xt_RD_8 (by decide) hu)) hk8) rfl (by decide) (xt_cl49 _ _) rfl (by decide) rfl (Nat.le_of_ble_eq_true rfl) dX6_read_141 ?_
        refine xt_iconst (v := nI 0) C dX6_read_144 rfl ?_
        refine xt_istore (lo' := [_, _, _, _, _, _]) C dX6_read_145 (Nat.le_of_ble_eq_true rfl) rfl rfl ?_
        have loopV : ∀ (dv i : Nat) (V : Nat → Int32), i ≤ 517 → (∀ j, j < i → V j = W j) → 517 + 1 ≤ i + dv → xt_X E cx (xt_ZM E cx 0 0 Q) 0 0 147 [some (.ref (E.1 49)), some (.int (nI it)), some (.int (nI m)), some (.int (nI i3)), some (.int (nI 0)), some (.int (nI i))] [] (xt_sA (xt_chg (xt_sN (xt_RD S b g W) 49 8 (nI 0)) kp) 50 V) := by
          intro dv
          induction dv with
          | zero => intro i V h0i hV h1i; exact absurd h1i (by omega)
          | succ dv ihv =>
            intro i V h0i hV h1i
            refine xt_iload C dX6_read_147 rfl ?_
            refine xt_sipush (v := nI 517) C dX6_read_149 (by decide) ?_
            refine xt_icmp_geN (tgt := 175) C dX6_read_152 (by decide) (by omega) (by omega) (fun c152 => ?_) (fun c152 => ?_)
            · refine xt_iload_n C dX6_read_175 rfl ?_
              refine xt_iret C dX6_read_176 ⟨by decide, by decide⟩ ?_
              have h8 := xt_dn0 hrs (by omega)
              have h9 := hq3 b g W st o V (by rw [← hRe]) (by rw [← hRe]; exact hst) (by rw [← hRe]; exact h8.1) ho (by rw [← hRe]; exact h8.2) (fun j hj => hV j (by omega))
              rw [← hRe] at h9
              exact h9
            · refine xt_aload_n C dX6_read_155 rfl ?_
              refine xt_get (f := 1) C xt_u6 rfl (by decide) (xt_cl49 _ _) (by decide) lkX6_9 rfl dX6_read_156 ?_
              refine xt_iload C dX6_read_159 rfl ?_
              refine xt_aload_n C dX6_read_161 rfl ?_
              refine xt_get (f := 6) C xt_u6 rfl (by decide) (xt_cl49 _ _) (by decide) lkX6_19 rfl dX6_read_162 ?_
              refine xt_iload C dX6_read_165 rfl ?_
              refine xt_ialdN C (by decide) (xt_cl53 _) (by omega) (by decide) (show (xt_sA (xt_chg (xt_sN (xt_RD S b g W) 49 8 (nI 0)) kp) 50 V).2.1 53 i = W i from by rw [xt_sA_n (by decide)]; exact congrFun (xt_RD_53 (S := S) (b := b) (g := g) (W := W)) i) dX6_read_167 ?_
              refine xt_iastN C (by decide) (xt_cl50 _) (by omega) (by decide) dX6_read_168 ?_
              rw [xt_sA_s, xt_sA_sA]
              refine xt_iincN (z := 1) (lo' := [_, _, _, _, _, _]) C dX6_read_169 rfl rfl rfl ?_
              refine xt_goto (tgt := 147) C dX6_read_172 (by decide) ?_
              exact xt_fg (by repeat' constructor) (ihv (i + 1) _ (by omega) (fun j hj => by
                by_cases e9 : j = i
                · rw [e9, xt_up_s]
                · rw [xt_up_n e9]; exact hV j (by omega)) (by omega))
        have h9 := loopV (517 + 1) 0 ((xt_chg (xt_sN (xt_RD S b g W) 49 8 (nI 0)) kp).2.1 50) (by omega) (fun j hj => absurd hj (Nat.not_lt_zero _)) (by omega)
        rw [xt_sA_self] at h9
        exact xt_fg (by repeat' constructor) h9
      · refine xt_aload_n C dX6_read_133 rfl ?_
        refine xt_iload_n C dX6_read_134 rfl ?_
        refine xt_iload_n C dX6_read_135 rfl ?_
        refine xt_cV C mv_X6_refuses lkX6_178 (ct_mrefuses (by omega)) rfl (by decide) (xt_cl49 _ _) rfl (by decide) rfl (Nat.le_of_ble_eq_true rfl) dX6_read_136 ?_
        exact xt_iret C dX6_read_139 ⟨by decide, by decide⟩ (xt_dn1 hrs (by omega) (fun r1 r2 r3 r4 r5 => hq2 b g W st m i3 (by rw [← hRe]) (by rw [← hRe]; exact hst) r1 r2 (by rw [← hRe]; exact r3) r4 r5))
    · exact absurd c48 (by omega)
  have reads : ∀ (o : Nat → Int32), (∀ j, j < 517 → o j = S.2.1 50 j) → xt_X E cx (xt_ZM E cx 0 0 Q) 0 0 46 [some (.ref (E.1 49)), some (.int (nI 0)), some (.int (nI 0)), some (.int (nI 0)), some (.int (nI 1)), none] [] (xt_RD S 0 (S.2.1 66) o) := by
    intro o ho
    have loop : ∀ (d it : Nat) (m i3 b f : Nat) (st : Nat → Nat) (q g W : Nat → Int32), it ≤ 60 → xt_fl (S.2.1 54) n f it b q = R → f + it = 60 → 3 * it ≤ b → b ≤ n → (∀ j, j < it → q j = nI (st j) ∧ st j < 1000) → W 0 = nI c → (xt_rs (S.2.1 54) n c r st o it m i3 W) → 60 + 1 ≤ it + d → xt_X E cx (xt_ZM E cx 0 0 Q) 0 0 46 [some (.ref (E.1 49)), some (.int (nI it)), some (.int (nI m)), some (.int (nI i3)), some (.int (nI 1)), none] [] (xt_RD S b g W) := by
      intro d
      induction d with
      | zero => intro it m i3 b f st q g W h0it hfl hff h3b hbn hst hW0 hrs h1it; exact absurd h1it (by omega)
      | succ d ih =>
        intro it m i3 b f st q g W h0it hfl hff h3b hbn hst hW0 hrs h1it
        have hRDn : (xt_RD S b g W).1 49 8 = nI n := xt_RD_8 (by decide) hn
        have e54 : (xt_RD S b g W).2.1 54 = S.2.1 54 := xt_RD_54 (by decide)
        obtain ⟨f9, rfl⟩ : ∃ f9, f = f9 + 1 := ⟨f - 1, by omega⟩
        have hm3 : m ≤ 3 := by
          rcases hrs with ⟨h9, _⟩ | ⟨_, h9, _⟩ <;> omega
        rw [xt_fl] at hfl
        change (if (xt_fo (xt_sg (S.2.1 54) n b)) = 24 then (nI b, it, xt_nq q it b) else if (xt_fe (S.2.1 54) n (xt_fo (xt_sg (S.2.1 54) n b)) (b + 1)) < (xt_tl.getD (xt_fo (xt_sg (S.2.1 54) n b)) 0) then (nI (b + 1 + (xt_fe (S.2.1 54) n (xt_fo (xt_sg (S.2.1 54) n b)) (b + 1))), it, xt_nq q it b) else if n ≤ b + 1 + (xt_fe (S.2.1 54) n (xt_fo (xt_sg (S.2.1 54) n b)) (b + 1)) then ((-1 : Int32), it + 1, xt_nq q it b) else if xt_sg (S.2.1 54) n (b + 1 + (xt_fe (S.2.1 54) n (xt_fo (xt_sg (S.2.1 54) n b)) (b + 1))) ≠ nI 59 then (nI (b + 1 + (xt_fe (S.2.1 54) n (xt_fo (xt_sg (S.2.1 54) n b)) (b + 1))), it + 1, xt_nq q it b) else xt_fl (S.2.1 54) n f9 (it + 1) (b + 1 + (xt_fe (S.2.1 54) n (xt_fo (xt_sg (S.2.1 54) n b)) (b + 1)) + 1) (xt_nq q it b)) = R at hfl
        refine xt_iload C dX6_read_46 rfl ?_
        refine xt_if_eqN (tgt := 124) C dX6_read_48 (by decide) (by omega) (fun c48 => ?_) (fun c48 => ?_)
        · exact absurd c48 (by omega)
        · by_cases hfo : (xt_fo (xt_sg (S.2.1 54) n b)) = 24
          · rw [if_pos hfo] at hfl
            have hx9 : ∀ m, m = 114 ∨ m = 109 ∨ m = 117 ∨ m = 116 ∨ m = 108 ∨ m = 98 → ¬ xt_sg ((xt_RD S b g W).2.1 54) n b = nI m := by
              rw [e54]
              rcases xt_fo_c (x := xt_sg (S.2.1 54) n b) with ⟨h9, _⟩ | ⟨h9, _⟩ | ⟨h9, _⟩ | ⟨_, h9⟩
              · omega
              · omega
              · omega
              · exact h9
            refine xt_aload_n C dX6_read_51 rfl ?_
            refine xt_cV C mv_X6_item lkX6_242 (ct_item_n (S := (xt_RD S b g W)) (xt_RD_8 (by decide) hn) h60 xt_RD_9 (by omega) hx9) rfl (by decide) (xt_cl49 _ _) rfl (by decide) rfl (Nat.le_of_ble_eq_true rfl) dX6_read_52 ?_
            refine xt_istore (lo' := [_, _, _, _, _, _]) C dX6_read_55 (Nat.le_of_ble_eq_true rfl) rfl rfl ?_
            refine xt_iload C dX6_read_57 rfl ?_
            refine xt_if_ge (tgt := 67) C dX6_read_59 (by decide) (fun c59 => ?_) (fun c59 => ?_)
            · exact absurd c59 (by decide)
            · refine xt_aload_n C dX6_read_62 rfl ?_
              refine xt_cV C mv_X6_faults lkX6_245 (ct_faults xt_RD_9) rfl (by decide) (xt_cl49 _ _) rfl (by decide) rfl (Nat.le_of_ble_eq_true rfl) dX6_read_63 ?_
              exact xt_iret C dX6_read_66 ⟨by decide, by decide⟩ (hq1 b g W (by rw [← hfl]) (by omega))
          · have hb24 := xt_fo_b (x := xt_sg (S.2.1 54) n b)
            have h24 : (xt_fo (xt_sg (S.2.1 54) n b)) < 24 := by omega
            have htl := xt_tl1 hb24.1 h24
            have hbl : b < n := Nat.lt_of_not_le (fun z => hfo (by rw [xt_sg0 z]; decide +kernel))
            have hle9 : (xt_fe (S.2.1 54) n (xt_fo (xt_sg (S.2.1 54) n b)) (b + 1)) ≤ (xt_tl.getD (xt_fo (xt_sg (S.2.1 54) n b)) 0) := xt_pre_le
            by_cases hlt9 : (xt_fe (S.2.1 54) n (xt_fo (xt_sg (S.2.1 54) n b)) (b + 1)) < (xt_tl.getD (xt_fo (xt_sg (S.2.1 54) n b)) 0)
            · rw [if_neg hfo, if_pos hlt9] at hfl
              refine xt_aload_n C dX6_read_51 rfl ?_
              refine xt_cVp C mv_X6_item lkX6_242 (ct_item_F (S := (xt_RD S b g W)) (xt_RD_8 (by decide) hn) h60 xt_RD_9 (by omega) rfl (by rw [e54]; exact h24) rfl (by rw [e54]; exact hlt9)) rfl (by decide) (xt_cl49 _ _) rfl (by decide) rfl (Nat.le_of_ble_eq_true rfl) dX6_read_52 (fun S9 hq9 => ?_)
              obtain ⟨g9, rfl⟩ := hq9
              rw [xt_RD_1, e54]
              refine xt_istore (lo' := [_, _, _, _, _, _]) C dX6_read_55 (Nat.le_of_ble_eq_true rfl) rfl rfl ?_
              refine xt_iload C dX6_read_57 rfl ?_
              refine xt_if_ge (tgt := 67) C dX6_read_59 (by decide) (fun c59 => ?_) (fun c59 => ?_)
              · exact absurd c59 (by decide)
              · refine xt_aload_n C dX6_read_62 rfl ?_
                refine xt_cV C mv_X6_faults lkX6_245 (ct_faults xt_RD_9) rfl (by decide) (xt_cl49 _ _) rfl (by decide) rfl (Nat.le_of_ble_eq_true rfl) dX6_read_63 ?_
                exact xt_iret C dX6_read_66 ⟨by decide, by decide⟩ (hq1 _ g9 W (by rw [← hfl]) (by omega))
            · have heq9 : (xt_fe (S.2.1 54) n (xt_fo (xt_sg (S.2.1 54) n b)) (b + 1)) = (xt_tl.getD (xt_fo (xt_sg (S.2.1 54) n b)) 0) := by omega
              rcases xt_why_v (a := S.2.1 54) (n := n) (b := b) (c := c) (r := r) with hw9 | ⟨m9, h91, h93, hw9⟩
              · refine xt_aload_n C dX6_read_51 rfl ?_
                refine xt_cVp C mv_X6_item lkX6_242 (ct_item_O (S := (xt_RD S b g W)) (xt_RD_8 (by decide) hn) h60 xt_RD_9 (by omega) (xt_RD_M hM9) rfl (by rw [e54]; exact h24) (by rw [e54]; exact heq9) (by rw [e54]; exact hw9) (by rw [xt_RD_53]; exact hW0)) rfl (by decide) (xt_cl49 _ _) rfl (by decide) rfl (Nat.le_of_ble_eq_true rfl) dX6_read_52 (fun S9 hq9 => ?_)
                obtain ⟨g9, W9, rfl, hap⟩ := hq9
                rw [xt_RD_2, e54]
                rw [e54, xt_RD_53] at hap
                refine xt_istore (lo' := [_, _, _, _, _, _]) C dX6_read_55 (Nat.le_of_ble_eq_true rfl) rfl rfl ?_
                refine xt_iload C dX6_read_57 rfl ?_
                refine xt_if_geN (tgt := 67) C dX6_read_59 (by decide) (by omega) ?_
                refine xt_iload C dX6_read_67 rfl ?_
                refine xt_if_leN (tgt := 81) C dX6_read_69 (by decide) (by omega) (fun c69 => ?_) (fun c69 => ?_)
                · refine xt_iincN (z := 1) (lo' := [_, _, _, _, _, _]) C dX6_read_81 rfl rfl rfl ?_
                  refine xt_aload_n C dX6_read_84 rfl ?_
                  refine xt_get (f := 9) C xt_u6 rfl (by decide) (xt_cl49 _ _) (by decide) lkX6_223 (xt_vI (by exact xt_RD_9)) dX6_read_85 ?_
                  refine xt_aload_n C dX6_read_88 rfl ?_
                  refine xt_get (f := 8) C xt_u6 rfl (by decide) (xt_cl49 _ _) (by decide) lkX6_155 (xt_vI (by exact xt_RD_8 (by decide) hn)) dX6_read_89 ?_
                  refine xt_icmp_geN (tgt := 99) C dX6_read_92 (by decide) (by omega) (by omega) (fun c92 => ?_) (fun c92 => ?_)
                  · refine xt_iconst (v := nI 0) C dX6_read_99 rfl ?_
                    refine xt_istore (lo' := [_, _, _, _, _, _]) C dX6_read_100 (Nat.le_of_ble_eq_true rfl) rfl rfl ?_
                    refine xt_iload C dX6_read_102 rfl ?_
                    refine xt_if_eqN (tgt := 121) C dX6_read_104 (by decide) (by decide) (fun _ => ?_) (fun c104 => absurd c104 (by decide))
                    refine xt_goto (tgt := 46) C dX6_read_121 (by decide) ?_
                    exact xt_fg (by repeat' constructor) (ex46 (it + 1) _ _ _ (xt_nst st it b) (xt_nq q it b) g9 W9 o (by rw [← hfl, if_neg hfo, if_neg (by omega), if_pos (by rw [heq9]; omega)]) (by omega) ho (xt_nq_t (by omega) (by omega) hst) ((xt_apm_0 hap).trans hW0) (xt_rs_o hrs hw9 hap) (by omega))
                  · refine xt_iconst (v := nI 1) C dX6_read_95 rfl ?_
                    refine xt_goto (tgt := 100) C dX6_read_96 (by decide) ?_
                    refine xt_istore (lo' := [_, _, _, _, _, _]) C dX6_read_100 (Nat.le_of_ble_eq_true rfl) rfl rfl ?_
                    refine xt_iload C dX6_read_102 rfl ?_
                    refine xt_if_eqN (tgt := 121) C dX6_read_104 (by decide) (by decide) (fun c104 => absurd c104 (by decide)) (fun _ => ?_)
                    by_cases h59 : xt_sg (S.2.1 54) n (b + 1 + (xt_tl.getD (xt_fo (xt_sg (S.2.1 54) n b)) 0)) = nI 59
                    · refine xt_aload_n C dX6_read_107 rfl ?_
                      refine xt_bipush (v := nI 59) C dX6_read_108 (by decide) ?_
                      refine xt_cV C mv_X6_takesOne lkX6_233 (ct_tone1 (S := (xt_RD S (b + 1 + (xt_tl.getD (xt_fo (xt_sg (S.2.1 54) n b)) 0)) g9 W9)) (b := (b + 1 + (xt_tl.getD (xt_fo (xt_sg (S.2.1 54) n b)) 0))) (xt_RD_8 (by decide) hn) h60 xt_RD_9 (by omega) (by rw [xt_RD_54 (by decide)]; exact h59)) rfl (by decide) (xt_cl49 _ _) rfl (by decide) rfl (Nat.le_of_ble_eq_true rfl) dX6_read_110 ?_
                      rw [xt_RD_n]
                      refine xt_if_neN (tgt := 121) C dX6_read_113 (by decide) (by omega) (fun c113 => ?_) (fun c113 => ?_)
                      · refine xt_goto (tgt := 46) C dX6_read_121 (by decide) ?_
                        rw [if_neg hfo, if_neg (by omega), if_neg (by rw [heq9]; omega), if_neg (not_not_intro (by rw [heq9]; exact h59)), heq9] at hfl
                        exact xt_fg (by repeat' constructor) (ih (it + 1) _ _ _ _ (xt_nst st it b) (xt_nq q it b) g9 W9 (by omega) hfl (by omega) (by omega) (by omega) (xt_nq_t (by omega) (by omega) hst) ((xt_apm_0 hap).trans hW0) (xt_rs_o hrs hw9 hap) (by omega))
                      · exact absurd c113 (by omega)
                    · refine xt_aload_n C dX6_read_107 rfl ?_
                      refine xt_bipush (v := nI 59) C dX6_read_108 (by decide) ?_
                      refine xt_cV C mv_X6_takesOne lkX6_233 (ct_tone0 (S := (xt_RD S (b + 1 + (xt_tl.getD (xt_fo (xt_sg (S.2.1 54) n b)) 0)) g9 W9)) (b := (b + 1 + (xt_tl.getD (xt_fo (xt_sg (S.2.1 54) n b)) 0))) (xt_RD_8 (by decide) hn) h60 xt_RD_9 (by omega) (by rw [xt_RD_54 (by decide)]; exact h59)) rfl (by decide) (xt_cl49 _ _) rfl (by decide) rfl (Nat.le_of_ble_eq_true rfl) dX6_read_110 ?_
                      
                      refine xt_if_neN (tgt := 121) C dX6_read_113 (by decide) (by omega) (fun c113 => ?_) (fun c113 => ?_)
                      · exact absurd c113 (by omega)
                      · refine xt_aload_n C dX6_read_116 rfl ?_
                        refine xt_cV C mv_X6_faults lkX6_245 (ct_faults xt_RD_9) rfl (by decide) (xt_cl49 _ _) rfl (by decide) rfl (Nat.le_of_ble_eq_true rfl) dX6_read_117 ?_
                        exact xt_iret C dX6_read_120 ⟨by decide, by decide⟩ (hq1 _ g9 W9 (by rw [← hfl, if_neg hfo, if_neg (by omega), if_neg (by rw [heq9]; omega), if_pos (by rw [heq9]; exact h59), heq9]) (by omega))
                · exact absurd c69 (by omega)
              · refine xt_aload_n C dX6_read_51 rfl ?_
                refine xt_cVp C mv_X6_item lkX6_242 (ct_item_W (S := (xt_RD S b g W)) (xt_RD_8 (by decide) hn) h60 xt_RD_9 (by omega) (xt_RD_M hM9) rfl (by rw [e54]; exact h24) (by rw [e54]; exact heq9) (R := nI m9) (by rw [e54]; exact hw9) (by exact xt_m1 h93)) rfl (by decide) (xt_cl49 _ _) rfl (by decide) rfl (Nat.le_of_ble_eq_true rfl) dX6_read_52 (fun S9 hq9 => ?_)
                obtain ⟨g9, rfl⟩ := hq9
                rw [xt_RD_1, e54]
                refine xt_istore (lo' := [_, _, _, _, _, _]) C dX6_read_55 (Nat.le_of_ble_eq_true rfl) rfl rfl ?_
                refine xt_iload C dX6_read_57 rfl ?_
                refine xt_if_geN (tgt := 67) C dX6_read_59 (by decide) (by omega) ?_
                refine xt_iload C dX6_read_67 rfl ?_
                refine xt_if_leN (tgt := 81) C dX6_read_69 (by decide) (by omega) (fun c69 => ?_) (fun c69 => ?_)
                · exact absurd c69 (by omega)
                · refine xt_iload_n C dX6_read_72 rfl ?_
                  refine xt_if_neN (tgt := 81) C dX6_read_73 (by decide) (by omega) (fun c73 => ?_) (fun c73 => ?_)
                  · refine xt_iincN (z := 1) (lo' := [_, _, _, _, _, _]) C dX6_read_81 rfl rfl rfl ?_
                    refine xt_aload_n C dX6_read_84 rfl ?_
                    refine xt_get (f := 9) C xt_u6 rfl (by decide) (xt_cl49 _ _) (by decide) lkX6_223 (xt_vI (by exact xt_RD_9)) dX6_read_85 ?_
                    refine xt_aload_n C dX6_read_88 rfl ?_
                    refine xt_get (f := 8) C xt_u6 rfl (by decide) (xt_cl49 _ _) (by decide) lkX6_155 (xt_vI (by exact xt_RD_8 (by decide) hn)) dX6_read_89 ?_
                    refine xt_icmp_geN (tgt := 99) C dX6_read_92 (by decide) (by omega) (by omega) (fun c92 => ?_) (fun c92 => ?_)
                    · refine xt_iconst (v := nI 0) C dX6_read_99 rfl ?_
                      refine xt_istore (lo' := [_, _, _, _, _, _]) C dX6_read_100 (Nat.le_of_ble_eq_true rfl) rfl rfl ?_
                      refine xt_iload C dX6_read_102 rfl ?_
                      refine xt_if_eqN (tgt := 121) C dX6_read_104 (by decide) (by decide) (fun _ => ?_) (fun c104 => absurd c104 (by decide))
                      refine xt_goto (tgt := 46) C dX6_read_121 (by decide) ?_
                      exact xt_fg (by repeat' constructor) (ex46 (it + 1) _ _ _ (xt_nst st it b) (xt_nq q it b) g9 W o (by rw [← hfl, if_neg hfo, if_neg (by omega), if_pos (by rw [heq9]; omega)]) (by omega) ho (xt_nq_t (by omega) (by omega) hst) hW0 (by first | exact xt_rs_w1 hrs (by omega) | exact xt_rs_w0 hrs (by omega) hw9 h91 h93) (by omega))
                    · refine xt_iconst (v := nI 1) C dX6_read_95 rfl ?_
                      refine xt_goto (tgt := 100) C dX6_read_96 (by decide) ?_
                      refine xt_istore (lo' := [_, _, _, _, _, _]) C dX6_read_100 (Nat.le_of_ble_eq_true rfl) rfl rfl ?_
                      refine xt_iload C dX6_read_102 rfl ?_
                      refine xt_if_eqN (tgt := 121) C dX6_read_104 (by decide) (by decide) (fun c104 => absurd c104 (by decide)) (fun _ => ?_)
                      by_cases h59 : xt_sg (S.2.1 54) n (b + 1 + (xt_tl.getD (xt_fo (xt_sg (S.2.1 54) n b)) 0)) = nI 59
                      · refine xt_aload_n C dX6_read_107 rfl ?_
                        refine xt_bipush (v := nI 59) C dX6_read_108 (by decide) ?_
                        refine xt_cV C mv_X6_takesOne lkX6_233 (ct_tone1 (S := (xt_RD S (b + 1 + (xt_tl.getD (xt_fo (xt_sg (S.2.1 54) n b)) 0)) g9 W)) (b := (b + 1 + (xt_tl.getD (xt_fo (xt_sg (S.2.1 54) n b)) 0))) (xt_RD_8 (by decide) hn) h60 xt_RD_9 (by omega) (by rw [xt_RD_54 (by decide)]; exact h59)) rfl (by decide) (xt_cl49 _ _) rfl (by decide) rfl (Nat.le_of_ble_eq_true rfl) dX6_read_110 ?_
                        rw [xt_RD_n]
                        refine xt_if_neN (tgt := 121) C dX6_read_113 (by decide) (by omega) (fun c113 => ?_) (fun c113 => ?_)
                        · refine xt_goto (tgt := 46) C dX6_read_121 (by decide) ?_
                          rw [if_neg hfo, if_neg (by omega), if_neg (by rw [heq9]; omega), if_neg (not_not_intro (by rw [heq9]; exact h59)), heq9] at hfl
                          exact xt_fg (by repeat' constructor) (ih (it + 1) _ _ _ _ (xt_nst st it b) (xt_nq q it b) g9 W (by omega) hfl (by omega) (by omega) (by omega) (xt_nq_t (by omega) (by omega) hst) hW0 (by first | exact xt_rs_w1 hrs (by omega) | exact xt_rs_w0 hrs (by omega) hw9 h91 h93) (by omega))
                        · exact absurd c113 (by omega)
                      · refine xt_aload_n C dX6_read_107 rfl ?_
                        refine xt_bipush (v := nI 59) C dX6_read_108 (by decide) ?_
                        refine xt_cV C mv_X6_takesOne lkX6_233 (ct_tone0 (S := (xt_RD S (b + 1 + (xt_tl.getD (xt_fo (xt_sg (S.2.1 54) n b)) 0)) g9 W)) (b := (b + 1 + (xt_tl.getD (xt_fo (xt_sg (S.2.1 54) n b)) 0))) (xt_RD_8 (by decide) hn) h60 xt_RD_9 (by omega) (by rw [xt_RD_54 (by decide)]; exact h59)) rfl (by decide) (xt_cl49 _ _) rfl (by decide) rfl (Nat.le_of_ble_eq_true rfl) dX6_read_110 ?_
                        
                        refine xt_if_neN (tgt := 121) C dX6_read_113 (by decide) (by omega) (fun c113 => ?_) (fun c113 => ?_)
                        · exact absurd c113 (by omega)
                        · refine xt_aload_n C dX6_read_116 rfl ?_
                          refine xt_cV C mv_X6_faults lkX6_245 (ct_faults xt_RD_9) rfl (by decide) (xt_cl49 _ _) rfl (by decide) rfl (Nat.le_of_ble_eq_true rfl) dX6_read_117 ?_
                          exact xt_iret C dX6_read_120 ⟨by decide, by decide⟩ (hq1 _ g9 W (by rw [← hfl, if_neg hfo, if_neg (by omega), if_neg (by rw [heq9]; omega), if_pos (by rw [heq9]; exact h59), heq9]) (by omega))
                  · refine xt_iload C dX6_read_76 rfl ?_
                    refine xt_istore_n (lo' := [_, _, _, _, _, _]) C dX6_read_78 (Nat.le_of_ble_eq_true rfl) rfl rfl ?_
                    refine xt_iload_n C dX6_read_79 rfl ?_
                    refine xt_istore_n (lo' := [_, _, _, _, _, _]) C dX6_read_80 (Nat.le_of_ble_eq_true rfl) rfl rfl ?_
                    refine xt_iincN (z := 1) (lo' := [_, _, _, _, _, _]) C dX6_read_81 rfl rfl rfl ?_
                    refine xt_aload_n C dX6_read_84 rfl ?_
                    refine xt_get (f := 9) C xt_u6 rfl (by decide) (xt_cl49 _ _) (by decide) lkX6_223 (xt_vI (by exact xt_RD_9)) dX6_read_85 ?_
                    refine xt_aload_n C dX6_read_88 rfl ?_
                    refine xt_get (f := 8) C xt_u6 rfl (by decide) (xt_cl49 _ _) (by decide) lkX6_155 (xt_vI (by exact xt_RD_8 (by decide) hn)) dX6_read_89 ?_
                    refine xt_icmp_geN (tgt := 99) C dX6_read_92 (by decide) (by omega) (by omega) (fun c92 => ?_) (fun c92 => ?_)
                    · refine xt_iconst (v := nI 0) C dX6_read_99 rfl ?_
                      refine xt_istore (lo' := [_, _, _, _, _, _]) C dX6_read_100 (Nat.le_of_ble_eq_true rfl) rfl rfl ?_
                      refine xt_iload C dX6_read_102 rfl ?_
                      refine xt_if_eqN (tgt := 121) C dX6_read_104 (by decide) (by decide) (fun _ => ?_) (fun c104 => absurd c104 (by decide))
                      refine xt_goto (tgt := 46) C dX6_read_121 (by decide) ?_
                      exact xt_fg (by repeat' constructor) (ex46 (it + 1) _ _ _ (xt_nst st it b) (xt_nq q it b) g9 W o (by rw [← hfl, if_neg hfo, if_neg (by omega), if_pos (by rw [heq9]; omega)]) (by omega) ho (xt_nq_t (by omega) (by omega) hst) hW0 (by first | exact xt_rs_w1 hrs (by omega) | exact xt_rs_w0 hrs (by omega) hw9 h91 h93) (by omega))
                    · refine xt_iconst (v := nI 1) C dX6_read_95 rfl ?_
                      refine xt_goto (tgt := 100) C dX6_read_96 (by decide) ?_
                      refine xt_istore (lo' := [_, _, _, _, _, _]) C dX6_read_100 (Nat.le_of_ble_eq_true rfl) rfl rfl ?_
                      refine xt_iload C dX6_read_102 rfl ?_
                      refine xt_if_eqN (tgt := 121) C dX6_read_104 (by decide) (by decide) (fun c104 => absurd c104 (by decide)) (fun _ => ?_)
                      by_cases h59 : xt_sg (S.2.1 54) n (b + 1 + (xt_tl.getD (xt_fo (xt_sg (S.2.1 54) n b)) 0)) = nI 59
                      · refine xt_aload_n C dX6_read_107 rfl ?_
                        refine xt_bipush (v := nI 59) C dX6_read_108 (by decide) ?_
                        refine xt_cV C mv_X6_takesOne lkX6_233 (ct_tone1 (S := (xt_RD S (b + 1 + (xt_tl.getD (xt_fo (xt_sg (S.2.1 54) n b)) 0)) g9 W)) (b := (b + 1 + (xt_tl.getD (xt_fo (xt_sg (S.2.1 54) n b)) 0))) (xt_RD_8 (by decide) hn) h60 xt_RD_9 (by omega) (by rw [xt_RD_54 (by decide)]; exact h59)) rfl (by decide) (xt_cl49 _ _) rfl (by decide) rfl (Nat.le_of_ble_eq_true rfl) dX6_read_110 ?_
                        rw [xt_RD_n]
                        refine xt_if_neN (tgt := 121) C dX6_read_113 (by decide) (by omega) (fun c113 => ?_) (fun c113 => ?_)
                        · refine xt_goto (tgt := 46) C dX6_read_121 (by decide) ?_
                          rw [if_neg hfo, if_neg (by omega), if_neg (by rw [heq9]; omega), if_neg (not_not_intro (by rw [heq9]; exact h59)), heq9] at hfl
                          exact xt_fg (by repeat' constructor) (ih (it + 1) _ _ _ _ (xt_nst st it b) (xt_nq q it b) g9 W (by omega) hfl (by omega) (by omega) (by omega) (xt_nq_t (by omega) (by omega) hst) hW0 (by first | exact xt_rs_w1 hrs (by omega) | exact xt_rs_w0 hrs (by omega) hw9 h91 h93) (by omega))
                        · exact absurd c113 (by omega)
                      · refine xt_aload_n C dX6_read_107 rfl ?_
                        refine xt_bipush (v := nI 59) C dX6_read_108 (by decide) ?_
                        refine xt_cV C mv_X6_takesOne lkX6_233 (ct_tone0 (S := (xt_RD S (b + 1 + (xt_tl.getD (xt_fo (xt_sg (S.2.1 54) n b)) 0)) g9 W)) (b := (b + 1 + (xt_tl.getD (xt_fo (xt_sg (S.2.1 54) n b)) 0))) (xt_RD_8 (by decide) hn) h60 xt_RD_9 (by omega) (by rw [xt_RD_54 (by decide)]; exact h59)) rfl (by decide) (xt_cl49 _ _) rfl (by decide) rfl (Nat.le_of_ble_eq_true rfl) dX6_read_110 ?_
                        
                        refine xt_if_neN (tgt := 121) C dX6_read_113 (by decide) (by omega) (fun c113 => ?_) (fun c113 => ?_)
                        · exact absurd c113 (by omega)
                        · refine xt_aload_n C dX6_read_116 rfl ?_
                          refine xt_cV C mv_X6_faults lkX6_245 (ct_faults xt_RD_9) rfl (by decide) (xt_cl49 _ _) rfl (by decide) rfl (Nat.le_of_ble_eq_true rfl) dX6_read_117 ?_
                          exact xt_iret C dX6_read_120 ⟨by decide, by decide⟩ (hq1 _ g9 W (by rw [← hfl, if_neg hfo, if_neg (by omega), if_neg (by rw [heq9]; omega), if_pos (by rw [heq9]; exact h59), heq9]) (by omega))
    exact loop (60 + 1) 0 0 0 0 60 (fun _ => 0) q0 (S.2.1 66) o (by omega) hR (by omega) (by omega) (by omega) (fun j hj => absurd hj (Nat.not_lt_zero _)) ((ho 0 (by decide)).trans hc) (Or.inl ⟨rfl, fun j hj => absurd hj (Nat.not_lt_zero _), rfl⟩) (by omega)
  have loop0 : ∀ (d0 i : Nat) (W : Nat → Int32), i ≤ 517 → (∀ j, j < i → W j = S.2.1 50 j) → 517 + 1 ≤ i + d0 → xt_X E cx (xt_ZM E cx 0 0 Q) 0 0 7 [some (.ref (E.1 49)), some (.int (nI i)), none, none, none, none] [] (xt_sA (xt_sN S 49 0 (nI 0)) 53 W) := by
    intro d0
    induction d0 with
    | zero => intro i W h0i hW h1i; exact absurd h1i (by omega)
    | succ d0 ih0 =>
      intro i W h0i hW h1i
      refine xt_iload_n C dX6_read_7 rfl ?_
      refine xt_sipush (v := nI 517) C dX6_read_8 (by decide) ?_
      refine xt_icmp_geN (tgt := 32) C dX6_read_11 (by decide) (by omega) (by omega) (fun c11 => ?_) (fun c11 => ?_)
      · refine xt_aload_n C dX6_read_32 rfl ?_
        refine xt_iconst (v := nI 0) C dX6_read_33 rfl ?_
        refine xt_put (f := 9) C xt_u6 rfl (by decide) (xt_cl49 _ _) (by decide) tyX6 tyX6_ok nmX6 lkX6_223 rfl (tyX6_ok 9 (by decide)) rfl rfl (Nat.le_of_ble_eq_true rfl) rfl dX6_read_34 ?_
        refine xt_iconst (v := nI 0) C dX6_read_37 rfl ?_
        refine xt_istore_n (lo' := [_, _, _, _, _, _]) C dX6_read_38 (Nat.le_of_ble_eq_true rfl) rfl rfl ?_
        refine xt_iconst (v := nI 0) C dX6_read_39 rfl ?_
        refine xt_istore_n (lo' := [_, _, _, _, _, _]) C dX6_read_40 (Nat.le_of_ble_eq_true rfl) rfl rfl ?_
        refine xt_iconst (v := nI 0) C dX6_read_41 rfl ?_
        refine xt_istore_n (lo' := [_, _, _, _, _, _]) C dX6_read_42 (Nat.le_of_ble_eq_true rfl) rfl rfl ?_
        refine xt_iconst (v := nI 1) C dX6_read_43 rfl ?_
        refine xt_istore (lo' := [_, _, _, _, _, _]) C dX6_read_44 (Nat.le_of_ble_eq_true rfl) rfl rfl ?_
        rw [show xt_sN (xt_sA (xt_sN S 49 0 (nI 0)) 53 W) 49 9 (nI 0) = xt_RD S 0 (S.2.1 66) W from by
          unfold xt_RD
          rw [show xt_sN (xt_sA (xt_sN S 49 0 (nI 0)) 53 W) 49 9 (nI 0) = xt_sA (xt_sN (xt_sN S 49 0 (nI 0)) 49 9 (nI 0)) 53 W from rfl, show xt_sA (xt_sN (xt_sN S 49 0 (nI 0)) 49 9 (nI 0)) 66 (S.2.1 66) = xt_sN (xt_sN S 49 0 (nI 0)) 49 9 (nI 0) from xt_sA_self (S := xt_sN (xt_sN S 49 0 (nI 0)) 49 9 (nI 0)) (i := 66)]]
        exact xt_fg (by repeat' constructor) (reads W (fun j hj => hW j (by omega)))
      · refine xt_aload_n C dX6_read_14 rfl ?_
        refine xt_get (f := 6) C xt_u6 rfl (by decide) (xt_cl49 _ _) (by decide) lkX6_19 rfl dX6_read_15 ?_
        refine xt_iload_n C dX6_read_18 rfl ?_
        refine xt_aload_n C dX6_read_19 rfl ?_
        refine xt_get (f := 1) C xt_u6 rfl (by decide) (xt_cl49 _ _) (by decide) lkX6_9 rfl dX6_read_20 ?_
        refine xt_iload_n C dX6_read_23 rfl ?_
        refine xt_ialdN C (by decide) (xt_cl50 _) (by omega) (by decide) (show (xt_sA (xt_sN S 49 0 (nI 0)) 53 W).2.1 50 i = S.2.1 50 i from by rw [xt_sA_n (by decide)]; rfl) dX6_read_24 ?_
        refine xt_iastN C (by decide) (xt_cl53 _) (by omega) (by decide) dX6_read_25 ?_
        rw [xt_sA_s, xt_sA_sA]
        refine xt_iincN (z := 1) (lo' := [_, _, _, _, _, _]) C dX6_read_26 rfl rfl rfl ?_
        refine xt_goto (tgt := 7) C dX6_read_29 (by decide) ?_
        exact xt_fg (by repeat' constructor) (ih0 (i + 1) _ (by omega) (fun j hj => by
          by_cases e9 : j = i
          · rw [e9, xt_up_s]
          · rw [xt_up_n e9]; exact hW j (by omega)) (by omega))
  refine xt_aload_n C dX6_read_0 rfl ?_
  refine xt_iconst (v := nI 0) C dX6_read_1 rfl ?_
  refine xt_put (f := 0) C xt_u6 rfl (by decide) (xt_cl49 _ _) (by decide) tyX6 tyX6_ok nmX6 lkX6_74 rfl (tyX6_ok 0 (by decide)) rfl rfl (Nat.le_of_ble_eq_true rfl) rfl dX6_read_2 ?_
  refine xt_iconst (v := nI 0) C dX6_read_5 rfl ?_
  refine xt_istore_n (lo' := [_, _, _, _, _, _]) C dX6_read_6 (Nat.le_of_ble_eq_true rfl) rfl rfl ?_
  have h9 := loop0 (517 + 1) 0 ((xt_sN S 49 0 (nI 0)).2.1 53) (by omega) (fun j hj => absurd hj (Nat.not_lt_zero _)) (by omega)
  rw [xt_sA_self] at h9
  exact xt_fg (by repeat' constructor) h9
end XM23
