/-! THE TILE: LOADED -/
section XC12
variable {E : xt_Ev} {l : Launch} {S : xt_St}
/-- nothing but the tile at work is new -/
def xt_fr (S T : xt_St) : Prop := (∀ i f, i ≠ 33 → T.1 i f = S.1 i f) ∧ (∀ i, (i < 34 ∨ 41 < i) → T.2.1 i = S.2.1 i) ∧ T.2.2 = S.2.2
theorem xt_fr_rf : xt_fr S S := ⟨fun _ _ _ => rfl, fun _ _ => rfl, rfl⟩
theorem xt_fr_tr {S T U : xt_St} (h : xt_fr S T) (h2 : xt_fr T U) : xt_fr S U := ⟨fun i f hi => (h2.1 i f hi).trans (h.1 i f hi), fun i hi => (h2.2.1 i hi).trans (h.2.1 i hi), h2.2.2.trans h.2.2⟩
theorem xt_fr_N {S T : xt_St} {f : Nat} {v : Int32} (h : xt_fr S T) : xt_fr S (xt_sN T 33 f v) := xt_fr_tr h ⟨fun i g hi => by simp [xt_sN, hi], fun _ _ => rfl, rfl⟩
theorem xt_fr_A {S T : xt_St} {i : Nat} {g : Nat → Int32} (hi : 34 ≤ i ∧ i ≤ 41) (h : xt_fr S T) : xt_fr S (xt_sA T i g) := xt_fr_tr h ⟨fun _ _ _ => rfl, fun j hj => xt_sA_n (by omega), rfl⟩
theorem xt_fr_Pic {S T : xt_St} {c r sd pl pb : Nat} (h : xt_fr S T) (hP : xt_Pic S 1 c r sd pl pb) : xt_Pic T 1 c r sd pl pb := by
  unfold xt_Pic at hP ⊢
  rw [h.1 1 0 (by decide), h.1 1 1 (by decide), h.1 1 2 (by decide), h.1 1 3 (by decide), h.1 1 4 (by decide)]
  exact hP
/-- the levels that there are -/
def xt_dep (lv w h : Nat) : Nat := if 1 ≤ lv ∧ (1 < xt_lo w 0 ∨ 1 < xt_lo h 0) then (if 2 ≤ lv ∧ (1 < xt_lo w 1 ∨ 1 < xt_lo h 1) then (if 3 ≤ lv ∧ (1 < xt_lo w 2 ∨ 1 < xt_lo h 2) then 3 else 2) else 1) else 0
theorem xt_dep_le {lv w h : Nat} : xt_dep lv w h ≤ lv ∧ xt_dep lv w h ≤ 3 := by
  unfold xt_dep
  split
  · split
    · split <;> omega
    · omega
  · omega
theorem xt_dep_at {lv w h d : Nat} (hl : lv ≤ 3) (hd : d ≤ lv) (ha : ∀ k, k < d → (1 < xt_lo w k ∨ 1 < xt_lo h k)) (he : d = lv ∨ ¬ (1 < xt_lo w d ∨ 1 < xt_lo h d)) : xt_dep lv w h = d := by
  unfold xt_dep
  have hj : d = 0 ∨ d = 1 ∨ d = 2 ∨ d = 3 := by omega
  rcases hj with rfl | rfl | rfl | rfl
  · rw [if_neg (by omega)]
  · have a0 := ha 0 (by omega)
    rw [if_pos (by omega), if_neg (by omega)]
  · have a0 := ha 0 (by omega)
    have a1 := ha 1 (by omega)
    rw [if_pos (by omega), if_pos (by omega), if_neg (by omega)]
  · have a0 := ha 0 (by omega)
    have a1 := ha 1 (by omega)
    have a2 := ha 2 (by omega)
    rw [if_pos (by omega), if_pos (by omega), if_pos (by omega)]
def xt_V (v : Nat → Int32) (c lf tp : Nat) : Nat → Int32 := fun p => v ((tp + p / 8) * c + (lf + p % 8))
def xt_kd (dp w h x y : Nat) : Nat := xt_kx w (xt_lev dp w h x y) x + 2 * xt_kx h (xt_lev dp w h x y) y
def xt_bd (dp w h x y : Nat) : Nat := 10 * xt_lev dp w h x y + xt_kd dp w h x y
def xt_pp (dp w h x y : Nat) : Int32 := xt_par dp w h (xt_lev dp w h x y) (xt_kd dp w h x y) (xt_bx w (xt_lev dp w h x y) x) (xt_bx h (xt_lev dp w h x y) y)
def xt_ms (k : Nat → Int32) (c lf tp w h dp x y : Nat) : Prop := xt_mk k c lf tp w h (xt_dn dp (xt_lev dp w h x y)) (xt_bx w (xt_lev dp w h x y) x) (xt_bx h (xt_lev dp w h x y) y)
/-- a place as it stands before splitting -/
def xt_plc (v k : Nat → Int32) (T : xt_St) (c lf tp w h dp x y : Nat) : Prop := T.2.1 34 (8 * y + x) = xt_V v c lf tp (8 * y + x) ∧ T.2.1 35 (8 * y + x) = xt_V v c lf tp (8 * y + x) ∧ T.2.1 36 (8 * y + x) = nI (xt_bd dp w h x y) ∧ T.2.1 37 (8 * y + x) = xt_pp dp w h x y ∧ T.2.1 38 (8 * y + x) = xt_b (xt_ms k c lf tp w h dp x y)
noncomputable def xt_ldS (T : xt_St) (c lf tp w h dp x y : Nat) (v : Int32) : xt_St := xt_dsc (xt_sA (xt_sA T 34 (upd (T.2.1 34) (8 * y + x) v)) 35 (upd (T.2.1 35) (8 * y + x) v)) c lf tp w h dp x y (xt_lev dp w h x y)
theorem xt_ldS_o {T : xt_St} {c lf tp w h dp x y : Nat} {v : Int32} {i p : Nat} (hp9 : p ≠ 8 * y + x) : (xt_ldS T c lf tp w h dp x y v).2.1 i p = T.2.1 i p := by
  unfold xt_ldS xt_dsc
  by_cases a : i = 38
  · subst a; rw [xt_sA_s, xt_up_n hp9]; rfl
  · rw [xt_sA_n a]
    by_cases b : i = 37
    · subst b; rw [xt_sA_s, xt_up_n hp9]; rfl
    · rw [xt_sA_n b]
      by_cases cc : i = 36
      · subst cc; rw [xt_sA_s, xt_up_n hp9]; rfl
      · rw [xt_sA_n cc]
        by_cases d : i = 35
        · subst d; rw [xt_sA_s, xt_up_n hp9]
        · rw [xt_sA_n d]
          by_cases e : i = 34
          · subst e; rw [xt_sA_s, xt_up_n hp9]
          · rw [xt_sA_n e]
theorem xt_ldS_fr {S T : xt_St} {c lf tp w h dp x y : Nat} {v : Int32} (hf : xt_fr S T) : xt_fr S (xt_ldS T c lf tp w h dp x y v) := by
  unfold xt_ldS xt_dsc
  exact xt_fr_A (by omega) (xt_fr_A (by omega) (xt_fr_A (by omega) (xt_fr_A (by omega) (xt_fr_A (by omega) hf))))
theorem xt_ldS_at {S T : xt_St} {c lf tp w h dp x y : Nat} {v : Int32} (hf : xt_fr S T) (hx : x < 8) (hv : v = S.2.1 2 ((tp + y) * c + (lf + x))) : xt_plc (S.2.1 2) (S.2.1 3) (xt_ldS T c lf tp w h dp x y v) c lf tp w h dp x y := by
  have hV : v = xt_V (S.2.1 2) c lf tp (8 * y + x) := by rw [hv]; unfold xt_V; rw [show (8 * y + x) / 8 = y by omega, show (8 * y + x) % 8 = x by omega]
  have h3 : T.2.1 3 = S.2.1 3 := hf.2.1 3 (by omega)
  unfold xt_plc
  rw [← hV]
  unfold xt_ldS xt_dsc
  refine ⟨?_, ?_, ?_, ?_, ?_⟩
  · show upd (T.2.1 34) (8 * y + x) v (8 * y + x) = v; exact xt_up_s
  · show upd (T.2.1 35) (8 * y + x) v (8 * y + x) = v; exact xt_up_s
  · show upd (T.2.1 36) (8 * y + x) _ (8 * y + x) = _; rw [xt_up_s]; rfl
  · show upd (T.2.1 37) (8 * y + x) _ (8 * y + x) = _; rw [xt_up_s]; rfl
  · show upd (T.2.1 38) (8 * y + x) (xt_b (xt_mk (T.2.1 3) c lf tp w h _ _ _)) (8 * y + x) = _; rw [xt_up_s, h3]; rfl
theorem xt_plc_k {v k : Nat → Int32} {T U : xt_St} {c lf tp w h dp x y : Nat} (h9 : ∀ i, U.2.1 i (8 * y + x) = T.2.1 i (8 * y + x)) (h1 : xt_plc v k T c lf tp w h dp x y) : xt_plc v k U c lf tp w h dp x y := by
  unfold xt_plc at h1 ⊢
  rw [h9, h9, h9, h9, h9]
  exact h1
theorem xt_plc_ld {v k : Nat → Int32} {T : xt_St} {c lf tp w h dp x y x9 y9 : Nat} {u : Int32} (hx : x < 8) (hx9 : x9 < 8) (hne : ¬ (y9 = y ∧ x9 = x)) (h1 : xt_plc v k T c lf tp w h dp x9 y9) : xt_plc v k (xt_ldS T c lf tp w h dp x y u) c lf tp w h dp x9 y9 :=
  xt_plc_k (fun i => xt_ldS_o (by omega)) h1
theorem xt_ld_step {S T : xt_St} {c lf tp w h dp x y : Nat} (hw : w ≤ 8) (hx : x < w) (hfr : xt_fr S T) (hct : ∀ y9 x9, y9 < h → x9 < w → (y9 < y ∨ (y9 = y ∧ x9 < x)) → xt_plc (S.2.1 2) (S.2.1 3) T c lf tp w h dp x9 y9) :
    ∀ y9 x9, y9 < h → x9 < w → (y9 < y ∨ (y9 = y ∧ x9 < x + 1)) → xt_plc (S.2.1 2) (S.2.1 3) (xt_ldS T c lf tp w h dp x y (S.2.1 2 ((tp + y) * c + (lf + x)))) c lf tp w h dp x9 y9 := by
  intro y9 x9 z1 z2 z3
  by_cases e : y9 = y ∧ x9 = x
  · obtain ⟨rfl, rfl⟩ := e
    exact xt_ldS_at hfr (by omega) rfl
  · exact xt_plc_ld (by omega) (by omega) e (hct y9 x9 z1 z2 (by omega))
/-- what lies inside alone decides what becomes of it -/
theorem xt_sp_ag {n i : Nat} {g g' : Nat → Int32} (h : ∀ j, j < n → g j = g' j) (hi : g i = g' i) : xt_sp n g i = xt_sp n g' i := by
  unfold xt_sp
  by_cases a : n ≤ i
  · rw [if_pos a, if_pos a, hi]
  · rw [if_neg a, if_neg a]
    have hlo : xt_lo n 1 = (n + 1) / 2 := by unfold xt_lo; rfl
    by_cases b : i < xt_lo n 1
    · rw [if_pos b, if_pos b]
      by_cases c : 2 * i + 1 < n
      · rw [if_pos c, if_pos c, h _ (by omega), h _ c]
      · rw [if_neg c, if_neg c, h _ (by omega)]
    · rw [if_neg b, if_neg b, h _ (by omega), h _ (by omega)]
def xt_ag (w h : Nat) (f g : Nat → Int32) : Prop := ∀ p, p % 8 < w → p / 8 < h → f p = g p
theorem xt_spA_ag {w h c r : Nat} {f g : Nat → Int32} (hw : w ≤ 8) (hc : c ≤ w) (hr : r ≤ h) (ha : xt_ag w h f g) : xt_ag w h (xt_spA c r f) (xt_spA c r g) := by
  have h1 : xt_ag w h (xt_R (xt_sp c) r f) (xt_R (xt_sp c) r g) := by
    intro p h1 h2
    unfold xt_R
    by_cases z : p / 8 < r
    · rw [if_pos z, if_pos z]
      exact xt_sp_ag (fun j hj => ha _ (by omega) (by omega)) (ha _ (by omega) (by omega))
    · rw [if_neg z, if_neg z, ha p h1 h2]
  intro p h2 h3
  unfold xt_spA xt_C
  by_cases z : p % 8 < c
  · rw [if_pos z, if_pos z]
    exact xt_sp_ag (fun j hj => h1 _ (by omega) (by omega)) (h1 _ (by omega) (by omega))
  · rw [if_neg z, if_neg z, h1 p h2 h3]
theorem xt_co_ag {w h d : Nat} {f g : Nat → Int32} (hw : w ≤ 8) (hd : d ≤ 4) (ha : xt_ag w h f g) : xt_ag w h (xt_co w h d f) (xt_co w h d g) := by
  induction d with
  | zero => exact ha
  | succ d ih => exact xt_spA_ag hw (xt_lo_le (by omega)) (xt_lo_le (by omega)) (ih (by omega))
/-- the tile at work is that part of a picture v with mask k -/
def xt_Tl (S : xt_St) (v k : Nat → Int32) (c lf tp w h dp bo : Nat) : Prop := xt_Tn S lf tp w h dp bo ∧ ∀ y x, y < h → x < w → S.2.1 34 (8 * y + x) = xt_V v c lf tp (8 * y + x) ∧ S.2.1 35 (8 * y + x) = xt_co w h dp (xt_V v c lf tp) (8 * y + x) ∧ S.2.1 36 (8 * y + x) = nI (xt_bd dp w h x y) ∧ S.2.1 37 (8 * y + x) = xt_pp dp w h x y ∧ S.2.1 38 (8 * y + x) = xt_b (xt_ms k c lf tp w h dp x y)
set_option maxRecDepth 20000 in
set_option maxHeartbeats 2000000 in
theorem ct_load {c r sd pl pb : Nat} (hP : xt_Pic S 1 c r sd pl pb) {t : Nat} (ht : t < xt_nt c r sd) (hk : ∀ j, j < 256 → S.2.1 3 j = nI 0 ∨ S.2.1 3 j = nI 1) : xt_Ct E l yX4_load cX4_load 6 none 4 106 0 0 [.ref (E.1 33), .ref (E.1 1), .int (nI t)] S (xt_Ep none (fun S9 => xt_fr S S9 ∧ xt_Tl S9 (S.2.1 2) (S.2.1 3) c (xt_gl c sd t) (xt_gt c sd t) (xt_gw c sd t) (xt_gh c r sd t) (xt_dep pl (xt_gw c sd t) (xt_gh c r sd t)) pb)) := by
  refine xt_body (by decide +kernel) (xt_all rfl) (Nat.le_of_ble_eq_true rfl) (fun cx C hl9 => ?_)
  show xt_X E cx _ 0 0 0 [some (.ref (E.1 33)), some (.ref (E.1 1)), some (.int (nI t)), none, none, none] [] S
  have hP9 := hP
  obtain ⟨hc, hr, hs, hv, hb, b1, b2, b3, b4, b5, b6, b7⟩ := hP
  have hn := xt_nt_b ⟨b1, b2⟩ ⟨b3, b4⟩ b5
  have hT := xt_tile_b ⟨b1, b2⟩ ⟨b3, b4⟩ b5 ht
  generalize hlf : xt_gl c sd t = lf at hT ⊢
  generalize htp : xt_gt c sd t = tp at hT ⊢
  generalize hw : xt_gw c sd t = w at hT ⊢
  generalize hh : xt_gh c r sd t = h at hT ⊢
  have hdep := xt_dep_le (lv := pl) (w := w) (h := h)
  have loopS : ∀ (d i : Nat) (T : xt_St) (g : Nat → Int32), i ≤ (xt_dep pl w h) → xt_fr S T → xt_Tn T lf tp w h (xt_dep pl w h) pb → (∀ y x, y < h → x < w → xt_plc (S.2.1 2) (S.2.1 3) T c lf tp w h (xt_dep pl w h) x y) → (xt_dep pl w h) + 1 ≤ i + d → xt_X E cx (xt_ZM E cx 0 0 (xt_Ep none (fun S9 => xt_fr S S9 ∧ xt_Tl S9 (S.2.1 2) (S.2.1 3) c lf tp w h (xt_dep pl w h) pb))) 0 0 203 [some (.ref (E.1 33)), some (.ref (E.1 1)), some (.int (nI t)), some (.int (nI (i + 1))), none, none] [] (xt_sA (xt_sA T 41 g) 35 (xt_co w h i (T.2.1 35))) := by
    intro d
    induction d with
    | zero => intro i T g h0i hfr hT hct h1i; exact absurd h1i (by omega)
    | succ d ih =>
      intro i T g h0i hfr hT hct h1i
      have hT9 := hT
      obtain ⟨t0, t1, t2, t3, t4, t5, g1, g2, g3, g4, g5, g6⟩ := hT
      refine xt_iload_n C dX4_load_203 rfl ?_
      refine xt_aload_n C dX4_load_204 rfl ?_
      refine xt_get (f := 4) C xt_u4 rfl (by decide) (xt_cl33 _ _) (by decide) lkX4_68 (xt_vI t4) dX4_load_205 ?_
      refine xt_icmp_gtN (tgt := 241) C dX4_load_208 (by decide) (by omega) (by omega) (fun c208 => ?_) (fun c208 => ?_)
      · refine xt_vret C dX4_load_241 ⟨by decide, by decide⟩ ?_
        have hi9 : i = xt_dep pl w h := by omega
        subst hi9
        refine ⟨rfl, xt_fr_A (by omega) (xt_fr_A (by omega) hfr), hT9, fun y x hy hx => ?_⟩
        obtain ⟨p1, p2, p3, p4, p5⟩ := hct y x hy hx
        refine ⟨p1, ?_, p3, p4, p5⟩
        exact xt_co_ag g1 (by omega) (fun p h1 h2 => by rw [show p = 8 * (p / 8) + p % 8 by omega]; exact (hct _ _ h2 h1).2.1) _ (by omega) (by omega)
      · have w1 := xt_lo_le (n := w) (k := i) (by omega)
        have w2 := xt_lo_le (n := h) (k := i) (by omega)
        refine xt_aload_n C dX4_load_211 rfl ?_
        refine xt_aload_n C dX4_load_212 rfl ?_
        refine xt_get (f := 2) C xt_u4 rfl (by decide) (xt_cl33 _ _) (by decide) lkX4_55 (xt_vI t2) dX4_load_213 ?_
        refine xt_iload_n C dX4_load_216 rfl ?_
        refine xt_iconst (v := nI 1) C dX4_load_217 rfl ?_
        refine xt_isubN C dX4_load_218 (by omega) ?_
        rw [Nat.add_sub_cancel]
        refine xt_cS C ms_X4_lows lkX4_74 (ct_lows (by omega) (by omega)) rfl (by decide) rfl (Nat.le_of_ble_eq_true rfl) dX4_load_219 ?_
        refine xt_aload_n C dX4_load_222 rfl ?_
        refine xt_get (f := 3) C xt_u4 rfl (by decide) (xt_cl33 _ _) (by decide) lkX4_61 (xt_vI t3) dX4_load_223 ?_
        refine xt_iload_n C dX4_load_226 rfl ?_
        refine xt_iconst (v := nI 1) C dX4_load_227 rfl ?_
        refine xt_isubN C dX4_load_228 (by omega) ?_
        rw [Nat.add_sub_cancel]
        refine xt_cS C ms_X4_lows lkX4_74 (ct_lows (by omega) (by omega)) rfl (by decide) rfl (Nat.le_of_ble_eq_true rfl) dX4_load_229 ?_
        refine xt_cVpn C mv_X4_splitArea lkX4_99 (ct_splitArea (by omega) (by omega)) rfl (by decide) (xt_cl33 _ _) rfl (by decide) rfl (Nat.le_of_ble_eq_true rfl) dX4_load_232 (fun S9 hq9 => ?_)
        obtain ⟨g9, rfl⟩ := hq9
        refine xt_iincN (z := 1) (lo' := [_, _, _, _, _, _]) C dX4_load_235 rfl rfl rfl ?_
        refine xt_goto (tgt := 203) C dX4_load_238 (by decide) ?_
        rw [xt_sA_4 (by decide)]
        exact ih (i + 1) T _ (by omega) hfr hT9 hct (by omega)
  have out1 : ∀ (d1 y : Nat) (T : xt_St), y ≤ h → xt_fr S T → xt_Tn T lf tp w h (xt_dep pl w h) pb → (∀ y9 x9, y9 < h → x9 < w → (y9 < y ∨ (y9 = y ∧ x9 < 0)) → xt_plc (S.2.1 2) (S.2.1 3) T c lf tp w h (xt_dep pl w h) x9 y9) → h + 1 ≤ y + d1 → xt_X E cx (xt_ZM E cx 0 0 (xt_Ep none (fun S9 => xt_fr S S9 ∧ xt_Tl S9 (S.2.1 2) (S.2.1 3) c lf tp w h (xt_dep pl w h) pb))) 0 0 105 [some (.ref (E.1 33)), some (.ref (E.1 1)), some (.int (nI t)), some (.int (nI y)), none, none] [] T := by
    intro d1
    induction d1 with
    | zero => intro y T h0y hfr hT hct h1y; exact absurd h1y (by omega)
    | succ d1 ih1 =>
      intro y T h0y hfr hT hct h1y
      have hT9 := hT
      obtain ⟨t0, t1, t2, t3, t4, t5, g1, g2, g3, g4, g5, g6⟩ := hT
      have hP8 := xt_fr_Pic hfr hP9
      have hP7 := hP8
      obtain ⟨hcT, hrT, hsT, hvT, hbT, -⟩ := hP7
      have hkT : ∀ j, j < 256 → T.2.1 3 j = nI 0 ∨ T.2.1 3 j = nI 1 := by rw [hfr.2.1 3 (by omega)]; exact hk
      refine xt_iload_n C dX4_load_105 rfl ?_
      refine xt_aload_n C dX4_load_106 rfl ?_
      refine xt_get (f := 3) C xt_u4 rfl (by decide) (xt_cl33 _ _) (by decide) lkX4_61 (xt_vI t3) dX4_load_107 ?_
      refine xt_icmp_geN (tgt := 201) C dX4_load_110 (by decide) (by omega) (by omega) (fun c110 => ?_) (fun c110 => ?_)
      · refine xt_iconst (v := nI 1) C dX4_load_201 rfl ?_
        refine xt_istore_n (lo' := [_, _, _, _, _, _]) C dX4_load_202 (Nat.le_of_ble_eq_true rfl) rfl rfl ?_
        have h9 := loopS (xt_dep pl w h + 1) 0 T (T.2.1 41) (by omega) hfr hT9 (fun y9 x9 z1 z2 => hct y9 x9 z1 z2 (by omega)) (by omega)
        rw [show xt_sA T 41 (T.2.1 41) = T from xt_sA_self, show xt_sA T 35 (xt_co w h 0 (T.2.1 35)) = T from xt_sA_self] at h9
        exact xt_fg (by repeat' constructor) h9
      · refine xt_iconst (v := nI 0) C dX4_load_113 rfl ?_
        refine xt_istore (lo' := [_, _, _, _, _, _]) C dX4_load_114 (Nat.le_of_ble_eq_true rfl) rfl rfl ?_
        have in2 : ∀ (d2 x : Nat) (T : xt_St), x ≤ w → xt_fr S T → xt_Tn T lf tp w h (xt_dep pl w h) pb → (∀ y9 x9, y9 < h → x9 < w → (y9 < y ∨ (y9 = y ∧ x9 < x)) → xt_plc (S.2.1 2) (S.2.1 3) T c lf tp w h (xt_dep pl w h) x9 y9) → w + 1 ≤ x + d2 → xt_X E cx (xt_ZM E cx 0 0 (xt_Ep none (fun S9 => xt_fr S S9 ∧ xt_Tl S9 (S.2.1 2) (S.2.1 3) c lf tp w h (xt_dep pl w h) pb))) 0 0 116 [some (.ref (E.1 33)), some (.ref (E.1 1)), some (.int (nI t)), some (.int (nI y)), some (.int (nI x)), none] [] T := by
          intro d2
          induction d2 with
          | zero => intro x T h0x hfr hT hct h1x; exact absurd h1x (by omega)
          | succ d2 ih2 =>
            intro x T h0x hfr hT hct h1x
            have hT9 := hT
            obtain ⟨t0, t1, t2, t3, t4, t5, g1, g2, g3, g4, g5, g6⟩ := hT
            have hP8 := xt_fr_Pic hfr hP9
            have hP7 := hP8
            obtain ⟨hcT, hrT, hsT, hvT, hbT, -⟩ := hP7
            have hkT : ∀ j, j < 256 → T.2.1 3 j = nI 0 ∨ T.2.1 3 j = nI 1 := by rw [hfr.2.1 3 (by omega)]; exact hk
            refine xt_iload C dX4_load_116 rfl ?_
            refine xt_aload_n C dX4_load_118 rfl ?_
            refine xt_get (f := 2) C xt_u4 rfl (by decide) (xt_cl33 _ _) (by decide) lkX4_55 (xt_vI t2) dX4_load_119 ?_
            refine xt_icmp_geN (tgt := 195) C dX4_load_122 (by decide) (by omega) (by omega) (fun c122 => ?_) (fun c122 => ?_)
            · refine xt_iincN (z := 1) (lo' := [_, _, _, _, _, _]) C dX4_load_195 rfl rfl rfl ?_
              refine xt_goto (tgt := 105) C dX4_load_198 (by decide) ?_
              exact xt_fg (by repeat' constructor) (ih1 (y + 1) T (by omega) hfr hT9 (fun y9 x9 z1 z2 z3 => hct y9 x9 z1 z2 (by omega)) (by omega))
            · refine xt_aload_n C dX4_load_125 rfl ?_
              refine xt_getN (f := 5) C xt_u1 rfl (by decide) (xt_cl1 _ _) (by decide) lkX4_78 rfl dX4_load_126 ?_
              refine xt_aload_n C dX4_load_129 rfl ?_
              refine xt_aload_n C dX4_load_130 rfl ?_
              refine xt_get (f := 0) C xt_u4 rfl (by decide) (xt_cl33 _ _) (by decide) lkX4_42 (xt_vI t0) dX4_load_131 ?_
              refine xt_iload C dX4_load_134 rfl ?_
              refine xt_iaddN C dX4_load_136 ?_
              refine xt_aload_n C dX4_load_137 rfl ?_
              refine xt_get (f := 1) C xt_u4 rfl (by decide) (xt_cl33 _ _) (by decide) lkX4_49 (xt_vI t1) dX4_load_138 ?_
              refine xt_iload_n C dX4_load_141 rfl ?_
              refine xt_iaddN C dX4_load_142 ?_
              refine xt_cVN C mv_X1_indexOf lkX4_81 (ct_indexOf (by exact hP8)) rfl (by decide) (xt_cl1 _ _) rfl (by decide) rfl (Nat.le_of_ble_eq_true rfl) dX4_load_143 ?_
              refine xt_cSN C ms_X5_at lkX4_84 (ct_at (by decide) (xt_cl2 _) (by decide) (xt_ix (c := c) (r := r) (by omega) (by omega) b2 b4).1 (v := S.2.1 2 ((tp + y) * c + (lf + x))) (by rw [hfr.2.1 2 (by omega)])) rfl (by decide) rfl (Nat.le_of_ble_eq_true rfl) dX4_load_146 ?_
              refine xt_istore (lo' := [_, _, _, _, _, _]) C dX4_load_149 (Nat.le_of_ble_eq_true rfl) rfl rfl ?_
              refine xt_aload_n C dX4_load_151 rfl ?_
              refine xt_get (f := 6) C xt_u4 rfl (by decide) (xt_cl33 _ _) (by decide) lkX4_9 rfl dX4_load_152 ?_
              refine xt_iload C dX4_load_155 rfl ?_
              refine xt_iload_n C dX4_load_157 rfl ?_
              refine xt_cSN C ms_X5_placeOf lkX4_88 ct_place rfl (by decide) rfl (Nat.le_of_ble_eq_true rfl) dX4_load_158 ?_
              refine xt_iload C dX4_load_161 rfl ?_
              refine xt_cSNn C ms_X5_put lkX4_91 (ct_put (by decide) (xt_cl34 _) (by decide) (by omega)) rfl (by decide) rfl (Nat.le_of_ble_eq_true rfl) dX4_load_163 ?_
              refine xt_aload_n C dX4_load_166 rfl ?_
              refine xt_get (f := 7) C xt_u4 rfl (by decide) (xt_cl33 _ _) (by decide) lkX4_15 rfl dX4_load_167 ?_
              refine xt_iload C dX4_load_170 rfl ?_
              refine xt_iload_n C dX4_load_172 rfl ?_
              refine xt_cSN C ms_X5_placeOf lkX4_88 ct_place rfl (by decide) rfl (Nat.le_of_ble_eq_true rfl) dX4_load_173 ?_
              refine xt_iload C dX4_load_176 rfl ?_
              refine xt_cSNn C ms_X5_put lkX4_91 (ct_put (by decide) (xt_cl35 _) (by decide) (by omega)) rfl (by decide) rfl (Nat.le_of_ble_eq_true rfl) dX4_load_178 ?_
              refine xt_aload_n C dX4_load_181 rfl ?_
              refine xt_aload_n C dX4_load_182 rfl ?_
              refine xt_iload C dX4_load_183 rfl ?_
              refine xt_iload_n C dX4_load_185 rfl ?_
              refine xt_cVn C mv_X4_describe lkX4_95 (ct_describe (by exact hT9) (by exact hP8) (by exact hkT) (by omega) (by omega) (by omega) (by omega)) rfl (by decide) (xt_cl33 _ _) rfl (by decide) rfl (Nat.le_of_ble_eq_true rfl) dX4_load_186 ?_
              refine xt_iincN (z := 1) (lo' := [_, _, _, _, _, _]) C dX4_load_189 rfl rfl rfl ?_
              refine xt_goto (tgt := 116) C dX4_load_192 (by decide) ?_
              have h9 := ih2 (x + 1) (xt_ldS T c lf tp w h (xt_dep pl w h) x y (S.2.1 2 ((tp + y) * c + (lf + x)))) (by omega) (xt_ldS_fr hfr) hT9 (xt_ld_step g1 (by omega) hfr hct) (by omega)
              exact xt_fg (by repeat' constructor) h9
        exact xt_fg (by repeat' constructor) (in2 (w + 1) 0 T (by omega) hfr hT9 (fun y9 x9 z1 z2 z3 => hct y9 x9 z1 z2 (by omega)) (by omega))
  have loopD : ∀ (d d9 : Nat) (T : xt_St), d9 ≤ pl → xt_fr S T → T.1 33 0 = nI lf → T.1 33 1 = nI tp → T.1 33 2 = nI w → T.1 33 3 = nI h → T.1 33 4 = nI d9 → T.1 33 5 = nI pb → (∀ k, k < d9 → (1 < xt_lo w k ∨ 1 < xt_lo h k)) → pl + 1 ≤ d9 + d → xt_X E cx (xt_ZM E cx 0 0 (xt_Ep none (fun S9 => xt_fr S S9 ∧ xt_Tl S9 (S.2.1 2) (S.2.1 3) c lf tp w h (xt_dep pl w h) pb))) 0 0 49 [some (.ref (E.1 33)), some (.ref (E.1 1)), some (.int (nI t)), none, none, none] [] T := by
    intro d
    induction d with
    | zero => intro d9 T h0d9 hfr ht0 ht1 t2 t3 t4 ht5 hbg h1d9; exact absurd h1d9 (by omega)
    | succ d ih =>
      intro d9 T h0d9 hfr ht0 ht1 t2 t3 t4 ht5 hbg h1d9
      have hP8 := xt_fr_Pic hfr hP9
      have hP7 := hP8
      obtain ⟨hcT, hrT, hsT, hvT, hbT, -⟩ := hP7
      refine xt_aload_n C dX4_load_49 rfl ?_
      refine xt_get (f := 4) C xt_u4 rfl (by decide) (xt_cl33 _ _) (by decide) lkX4_68 (xt_vI t4) dX4_load_50 ?_
      refine xt_aload_n C dX4_load_53 rfl ?_
      refine xt_getN (f := 3) C xt_u1 rfl (by decide) (xt_cl1 _ _) (by decide) lkX4_71 (xt_vI hvT) dX4_load_54 ?_
      refine xt_icmp_geN (tgt := 103) C dX4_load_57 (by decide) (by omega) (by omega) (fun c57 => ?_) (fun c57 => ?_)
      · refine xt_iconst (v := nI 0) C dX4_load_103 rfl ?_
        refine xt_istore_n (lo' := [_, _, _, _, _, _]) C dX4_load_104 (Nat.le_of_ble_eq_true rfl) rfl rfl ?_
        have hdp : xt_dep pl w h = d9 := xt_dep_at b6 (by omega) hbg (by omega)
        have h9 := out1 (h + 1) 0 T (by omega) hfr ⟨ht0, ht1, t2, t3, by rw [hdp]; exact t4, ht5, by omega⟩ (fun y9 x9 z1 z2 z3 => by omega) (by omega)
        exact xt_fg (by repeat' constructor) h9
      · have w1 := xt_lo_le (n := w) (k := d9) (by omega)
        have w2 := xt_lo_le (n := h) (k := d9) (by omega)
        refine xt_aload_n C dX4_load_60 rfl ?_
        refine xt_get (f := 2) C xt_u4 rfl (by decide) (xt_cl33 _ _) (by decide) lkX4_55 (xt_vI t2) dX4_load_61 ?_
        refine xt_aload_n C dX4_load_64 rfl ?_
        refine xt_get (f := 4) C xt_u4 rfl (by decide) (xt_cl33 _ _) (by decide) lkX4_68 (xt_vI t4) dX4_load_65 ?_
        refine xt_cS C ms_X4_lows lkX4_74 (ct_lows (by omega) (by omega)) rfl (by decide) rfl (Nat.le_of_ble_eq_true rfl) dX4_load_68 ?_
        refine xt_iconst (v := nI 1) C dX4_load_71 rfl ?_
        refine xt_icmp_gtN (tgt := 90) C dX4_load_72 (by decide) (by omega) (by omega) (fun c72 => ?_) (fun c72 => ?_)
        · refine xt_aload_n C dX4_load_90 rfl ?_
          refine xt_dup C dX4_load_91 rfl ?_
          refine xt_get (f := 4) C xt_u4 rfl (by decide) (xt_cl33 _ _) (by decide) lkX4_68 (xt_vI t4) dX4_load_92 ?_
          refine xt_iconst (v := nI 1) C dX4_load_95 rfl ?_
          refine xt_iaddN C dX4_load_96 ?_
          refine xt_put (f := 4) C xt_u4 rfl (by decide) (xt_cl33 _ _) (by decide) tyX4 tyX4_ok nmX4 lkX4_68 rfl (tyX4_ok 4 (by decide)) rfl rfl (Nat.le_of_ble_eq_true rfl) rfl dX4_load_97 ?_
          refine xt_goto (tgt := 49) C dX4_load_100 (by decide) ?_
          exact xt_fg (by repeat' constructor) (ih (d9 + 1) (xt_sN T 33 4 (nI (d9 + 1))) (by omega) (xt_fr_N hfr) ht0 ht1 t2 t3 rfl ht5 (fun k hk9 => by rcases Nat.lt_succ_iff_lt_or_eq.mp hk9 with z | rfl; exact hbg k z; omega) (by omega))
        · refine xt_aload_n C dX4_load_75 rfl ?_
          refine xt_get (f := 3) C xt_u4 rfl (by decide) (xt_cl33 _ _) (by decide) lkX4_61 (xt_vI t3) dX4_load_76 ?_
          refine xt_aload_n C dX4_load_79 rfl ?_
          refine xt_get (f := 4) C xt_u4 rfl (by decide) (xt_cl33 _ _) (by decide) lkX4_68 (xt_vI t4) dX4_load_80 ?_
          refine xt_cS C ms_X4_lows lkX4_74 (ct_lows (by omega) (by omega)) rfl (by decide) rfl (Nat.le_of_ble_eq_true rfl) dX4_load_83 ?_
          refine xt_iconst (v := nI 1) C dX4_load_86 rfl ?_
          refine xt_icmp_leN (tgt := 103) C dX4_load_87 (by decide) (by omega) (by omega) (fun c87 => ?_) (fun c87 => ?_)
          · refine xt_iconst (v := nI 0) C dX4_load_103 rfl ?_
            refine xt_istore_n (lo' := [_, _, _, _, _, _]) C dX4_load_104 (Nat.le_of_ble_eq_true rfl) rfl rfl ?_
            have hdp : xt_dep pl w h = d9 := xt_dep_at b6 (by omega) hbg (by omega)
            have h9 := out1 (h + 1) 0 T (by omega) hfr ⟨ht0, ht1, t2, t3, by rw [hdp]; exact t4, ht5, by omega⟩ (fun y9 x9 z1 z2 z3 => by omega) (by omega)
            exact xt_fg (by repeat' constructor) h9
          · refine xt_aload_n C dX4_load_90 rfl ?_
            refine xt_dup C dX4_load_91 rfl ?_
            refine xt_get (f := 4) C xt_u4 rfl (by decide) (xt_cl33 _ _) (by decide) lkX4_68 (xt_vI t4) dX4_load_92 ?_
            refine xt_iconst (v := nI 1) C dX4_load_95 rfl ?_
            refine xt_iaddN C dX4_load_96 ?_
            refine xt_put (f := 4) C xt_u4 rfl (by decide) (xt_cl33 _ _) (by decide) tyX4 tyX4_ok nmX4 lkX4_68 rfl (tyX4_ok 4 (by decide)) rfl rfl (Nat.le_of_ble_eq_true rfl) rfl dX4_load_97 ?_
            refine xt_goto (tgt := 49) C dX4_load_100 (by decide) ?_
            exact xt_fg (by repeat' constructor) (ih (d9 + 1) (xt_sN T 33 4 (nI (d9 + 1))) (by omega) (xt_fr_N hfr) ht0 ht1 t2 t3 rfl ht5 (fun k hk9 => by rcases Nat.lt_succ_iff_lt_or_eq.mp hk9 with z | rfl; exact hbg k z; omega) (by omega))
  refine xt_aload_n C dX4_load_0 rfl ?_
  refine xt_aload_n C dX4_load_1 rfl ?_
  refine xt_iload_n C dX4_load_2 rfl ?_
  refine xt_cVN C mv_X1_leftOf lkX4_36 (xt_ct_rw hlf (ct_leftOf (by exact hP9) ht)) rfl (by decide) (xt_cl1 _ _) rfl (by decide) rfl (Nat.le_of_ble_eq_true rfl) dX4_load_3 ?_
  refine xt_put (f := 0) C xt_u4 rfl (by decide) (xt_cl33 _ _) (by decide) tyX4 tyX4_ok nmX4 lkX4_42 rfl (tyX4_ok 0 (by decide)) rfl rfl (Nat.le_of_ble_eq_true rfl) rfl dX4_load_6 ?_
  refine xt_aload_n C dX4_load_9 rfl ?_
  refine xt_aload_n C dX4_load_10 rfl ?_
  refine xt_iload_n C dX4_load_11 rfl ?_
  refine xt_cVN C mv_X1_topOf lkX4_46 (xt_ct_rw htp (ct_topOf (by exact hP9) ht)) rfl (by decide) (xt_cl1 _ _) rfl (by decide) rfl (Nat.le_of_ble_eq_true rfl) dX4_load_12 ?_
  refine xt_put (f := 1) C xt_u4 rfl (by decide) (xt_cl33 _ _) (by decide) tyX4 tyX4_ok nmX4 lkX4_49 rfl (tyX4_ok 1 (by decide)) rfl rfl (Nat.le_of_ble_eq_true rfl) rfl dX4_load_15 ?_
  refine xt_aload_n C dX4_load_18 rfl ?_
  refine xt_aload_n C dX4_load_19 rfl ?_
  refine xt_iload_n C dX4_load_20 rfl ?_
  refine xt_cVN C mv_X1_widthOf lkX4_52 (xt_ct_rw hw (ct_widthOf (by exact hP9) ht)) rfl (by decide) (xt_cl1 _ _) rfl (by decide) rfl (Nat.le_of_ble_eq_true rfl) dX4_load_21 ?_
  refine xt_put (f := 2) C xt_u4 rfl (by decide) (xt_cl33 _ _) (by decide) tyX4 tyX4_ok nmX4 lkX4_55 rfl (tyX4_ok 2 (by decide)) rfl rfl (Nat.le_of_ble_eq_true rfl) rfl dX4_load_24 ?_
  refine xt_aload_n C dX4_load_27 rfl ?_
  refine xt_aload_n C dX4_load_28 rfl ?_
  refine xt_iload_n C dX4_load_29 rfl ?_
  refine xt_cVN C mv_X1_heightOf lkX4_58 (xt_ct_rw hh (ct_heightOf (by exact hP9) ht)) rfl (by decide) (xt_cl1 _ _) rfl (by decide) rfl (Nat.le_of_ble_eq_true rfl) dX4_load_30 ?_
  refine xt_put (f := 3) C xt_u4 rfl (by decide) (xt_cl33 _ _) (by decide) tyX4 tyX4_ok nmX4 lkX4_61 rfl (tyX4_ok 3 (by decide)) rfl rfl (Nat.le_of_ble_eq_true rfl) rfl dX4_load_33 ?_
  refine xt_aload_n C dX4_load_36 rfl ?_
  refine xt_aload_n C dX4_load_37 rfl ?_
  refine xt_getN (f := 4) C xt_u1 rfl (by decide) (xt_cl1 _ _) (by decide) lkX4_64 (xt_vI hb) dX4_load_38 ?_
  refine xt_put (f := 5) C xt_u4 rfl (by decide) (xt_cl33 _ _) (by decide) tyX4 tyX4_ok nmX4 lkX4_67 rfl (tyX4_ok 5 (by decide)) rfl rfl (Nat.le_of_ble_eq_true rfl) rfl dX4_load_41 ?_
  refine xt_aload_n C dX4_load_44 rfl ?_
  refine xt_iconst (v := nI 0) C dX4_load_45 rfl ?_
  refine xt_put (f := 4) C xt_u4 rfl (by decide) (xt_cl33 _ _) (by decide) tyX4 tyX4_ok nmX4 lkX4_68 rfl (tyX4_ok 4 (by decide)) rfl rfl (Nat.le_of_ble_eq_true rfl) rfl dX4_load_46 ?_
  refine loopD (pl + 1) 0 _ (by omega) ?_ rfl rfl rfl rfl rfl rfl (fun k hk9 => absurd hk9 (Nat.not_lt_zero _)) (by omega)
  exact xt_fr_N (xt_fr_N (xt_fr_N (xt_fr_N (xt_fr_N (xt_fr_N xt_fr_rf)))))
end XC12
