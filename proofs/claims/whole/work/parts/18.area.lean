/-! THE TILE: AREAS SPLIT, LEVELS JOINED -/
section XC11
variable {E : xt_Ev} {l : Launch} {S : xt_St}
/-- a line's work, on the first y rows; on the first x columns -/
def xt_R (F : (Nat → Int32) → Nat → Int32) (y : Nat) (f : Nat → Int32) : Nat → Int32 := fun p => if p / 8 < y then F (fun x => f (8 * (p / 8) + x)) (p % 8) else f p
def xt_C (F : (Nat → Int32) → Nat → Int32) (x : Nat) (f : Nat → Int32) : Nat → Int32 := fun p => if p % 8 < x then F (fun y => f (8 * y + p % 8)) (p / 8) else f p
theorem xt_R_0 {F : (Nat → Int32) → Nat → Int32} {f : Nat → Int32} : xt_R F 0 f = f := by funext p; simp [xt_R]
theorem xt_C_0 {F : (Nat → Int32) → Nat → Int32} {f : Nat → Int32} : xt_C F 0 f = f := by funext p; simp [xt_C]
theorem xt_R_s {F : (Nat → Int32) → Nat → Int32} {f f' : Nat → Int32} {n y : Nat} (hn : n ≤ 8) (hF : ∀ g i, n ≤ i → F g i = g i) (h : xt_pt (8 * y + 0) 1 n (xt_R F y f) f' (fun _ => True) (F (fun j => xt_R F y f (8 * y + 0 + j * 1)))) : f' = xt_R F (y + 1) f := by
  obtain ⟨h1, -, h3⟩ := h
  have e : (fun j => xt_R F y f (8 * y + 0 + j * 1)) = fun x => f (8 * y + x) := by
    funext j
    unfold xt_R
    rw [if_neg (by omega)]
    congr 1
    omega
  rw [e] at h1
  funext p
  by_cases hp : p / 8 = y
  · unfold xt_R
    rw [if_pos (by omega), hp]
    by_cases hi : p % 8 < n
    · have h9 := h1 (p % 8) hi trivial
      rw [show 8 * y + 0 + p % 8 * 1 = p by omega] at h9
      exact h9
    · rw [h3 p (fun j hj => by omega), hF _ _ (Nat.le_of_not_lt hi)]
      unfold xt_R
      rw [if_neg (by omega), show 8 * y + p % 8 = p by omega]
  · rw [h3 p (fun j hj => by omega)]
    unfold xt_R
    by_cases z : p / 8 < y
    · rw [if_pos z, if_pos (by omega)]
    · rw [if_neg z, if_neg (by omega)]
theorem xt_C_s {F : (Nat → Int32) → Nat → Int32} {f f' : Nat → Int32} {n x : Nat} (hx : x < 8) (hF : ∀ g i, n ≤ i → F g i = g i) (h : xt_pt (8 * 0 + x) 8 n (xt_C F x f) f' (fun _ => True) (F (fun j => xt_C F x f (8 * 0 + x + j * 8)))) : f' = xt_C F (x + 1) f := by
  obtain ⟨h1, -, h3⟩ := h
  have e : (fun j => xt_C F x f (8 * 0 + x + j * 8)) = fun y => f (8 * y + x) := by
    funext j
    unfold xt_C
    rw [if_neg (by omega)]
    congr 1
    omega
  rw [e] at h1
  funext p
  by_cases hp : p % 8 = x
  · unfold xt_C
    rw [if_pos (by omega), hp]
    by_cases hi : p / 8 < n
    · have h9 := h1 (p / 8) hi trivial
      rw [show 8 * 0 + x + p / 8 * 8 = p by omega] at h9
      exact h9
    · rw [h3 p (fun j hj => by omega), hF _ _ (Nat.le_of_not_lt hi)]
      unfold xt_C
      rw [if_neg (by omega), show 8 * (p / 8) + x = p by omega]
  · rw [h3 p (fun j hj => by omega)]
    unfold xt_C
    by_cases z : p % 8 < x
    · rw [if_pos z, if_pos (by omega)]
    · rw [if_neg z, if_neg (by omega)]
theorem xt_sp_o {n : Nat} (g : Nat → Int32) (i : Nat) (h : n ≤ i) : xt_sp n g i = g i := by unfold xt_sp; exact if_pos h
theorem xt_jl_o {z n : Nat} (g : Nat → Int32) (i : Nat) (h : n ≤ i) : xt_jl z n g i = g i := by unfold xt_jl; exact if_pos h
/-- a level's area is split; joined -/
def xt_spA (c r : Nat) (f : Nat → Int32) : Nat → Int32 := xt_C (xt_sp r) c (xt_R (xt_sp c) r f)
def xt_jA (z c r : Nat) (f : Nat → Int32) : Nat → Int32 := xt_R (xt_jl z c) r (xt_C (xt_jl z r) c f)
/-- all levels split, from the first; joined, from the last -/
def xt_co (w h d : Nat) (f : Nat → Int32) : Nat → Int32 := xt_it (fun l f => xt_spA (xt_lo w l) (xt_lo h l) f) d f
def xt_jn (z w h : Nat) : Nat → (Nat → Int32) → Nat → Int32
  | 0, f => f
  | d + 1, f => xt_jn z w h d (xt_jA z (xt_lo w d) (xt_lo h d) f)
theorem xt_sA_4 {S : xt_St} {i j : Nat} {a b c d : Nat → Int32} (h : i ≠ j) : xt_sA (xt_sA (xt_sA (xt_sA S i a) j b) i c) j d = xt_sA (xt_sA S i c) j d := by
  rw [xt_sA_cm (i := j) (j := i) (fun e => h e.symm), xt_sA_sA, xt_sA_sA]
theorem xt_iincM {E : xt_Ev} {cx : xt_Cx} {Z : State → Prop} {k n pc nL : Nat} {lo lo' : List (Option Value)} {st : List Value} {S : xt_St} {own : String} {cc : ByteArray} {ret : Option FieldType} {rm : Room} (C : xt_Ok own cc nL ret rm E cx) {q a : Nat} (d : decode cc pc = .ok (.iinc q (-1), 3)) (hx : lo[q]? = some (some (.int (nI (a + 1))))) (hc : xt_cat2 lo q = false) (hl : lo.set q (some (.int (nI a))) = lo') (kk : xt_X E cx Z k n (pc + 3) lo' st S) : xt_X E cx Z k n pc lo st S := xt_iinc C d hx (pk_m1 a) hc hl kk
set_option maxRecDepth 20000 in
set_option maxHeartbeats 2000000 in
theorem ct_splitArea {c r : Nat} (hc : c ≤ 8) (hr : r ≤ 8) : xt_Ct E l yX4_splitArea cX4_splitArea 4 none 3 74 0 0 [.ref (E.1 33), .int (nI c), .int (nI r)] S (xt_Ep none (fun S9 => ∃ g9, S9 = xt_sA (xt_sA S 41 g9) 35 (xt_spA c r (S.2.1 35)))) := by
  refine xt_body (by decide +kernel) (xt_all rfl) (Nat.le_of_ble_eq_true rfl) (fun cx C hl9 => ?_)
  show xt_X E cx _ 0 0 0 [some (.ref (E.1 33)), some (.int (nI c)), some (.int (nI r)), none] [] S
  have loopC : ∀ (d x : Nat) (g : Nat → Int32), x ≤ c →  c + 1 ≤ x + d → xt_X E cx (xt_ZM E cx 0 0 (xt_Ep none (fun S9 => ∃ g9, S9 = xt_sA (xt_sA S 41 g9) 35 (xt_spA c r (S.2.1 35))))) 0 0 26 [some (.ref (E.1 33)), some (.int (nI c)), some (.int (nI r)), some (.int (nI x))] [] (xt_sA (xt_sA S 41 g) 35 (xt_C (xt_sp r) x (xt_R (xt_sp c) r (S.2.1 35)))) := by
    intro d
    induction d with
    | zero => intro x g h0x  h1x; exact absurd h1x (by omega)
    | succ d ih =>
      intro x g h0x  h1x
      refine xt_iload_n C dX4_splitArea_26 rfl ?_
      refine xt_iload_n C dX4_splitArea_27 rfl ?_
      refine xt_icmp_geN (tgt := 49) C dX4_splitArea_28 (by decide) (by omega) (by omega) (fun c28 => ?_) (fun c28 => ?_)
      · exact xt_vret C dX4_splitArea_49 ⟨by decide, by decide⟩ ⟨rfl, g, by rw [show x = c by omega]; rfl⟩
      · refine xt_aload_n C dX4_splitArea_31 rfl ?_
        refine xt_iload_n C dX4_splitArea_32 rfl ?_
        refine xt_iconst (v := nI 0) C dX4_splitArea_33 rfl ?_
        refine xt_cSN C ms_X5_placeOf lkX4_88 ct_place rfl (by decide) rfl (Nat.le_of_ble_eq_true rfl) dX4_splitArea_34 ?_
        refine xt_bipush (v := nI 8) C dX4_splitArea_37 (by decide) ?_
        refine xt_iload_n C dX4_splitArea_39 rfl ?_
        refine xt_cVpn C mv_X4_splitLine lkX4_124 (ct_splitLine (by omega) (by decide) (fun i hi9 => by omega)) rfl (by decide) (xt_cl33 _ _) rfl (by decide) rfl (Nat.le_of_ble_eq_true rfl) dX4_splitArea_40 (fun S9 hq9 => ?_)
        obtain ⟨g9, f9, rfl, hp9⟩ := hq9
        refine xt_iincN (z := 1) (lo' := [_, _, _, _]) C dX4_splitArea_43 rfl rfl rfl ?_
        refine xt_goto (tgt := 26) C dX4_splitArea_46 (by decide) ?_
        have e9 := xt_C_s (F := xt_sp r) (f := (xt_R (xt_sp c) r (S.2.1 35))) (by omega) xt_sp_o hp9
        subst e9
        rw [xt_sA_4 (by decide)]
        exact ih (x + 1) _ (by omega) (by omega)
  have loopR : ∀ (d y : Nat) (g : Nat → Int32), y ≤ r →  r + 1 ≤ y + d → xt_X E cx (xt_ZM E cx 0 0 (xt_Ep none (fun S9 => ∃ g9, S9 = xt_sA (xt_sA S 41 g9) 35 (xt_spA c r (S.2.1 35))))) 0 0 2 [some (.ref (E.1 33)), some (.int (nI c)), some (.int (nI r)), some (.int (nI y))] [] (xt_sA (xt_sA S 41 g) 35 (xt_R (xt_sp c) y (S.2.1 35))) := by
    intro d
    induction d with
    | zero => intro y g h0y  h1y; exact absurd h1y (by omega)
    | succ d ih =>
      intro y g h0y  h1y
      refine xt_iload_n C dX4_splitArea_2 rfl ?_
      refine xt_iload_n C dX4_splitArea_3 rfl ?_
      refine xt_icmp_geN (tgt := 24) C dX4_splitArea_4 (by decide) (by omega) (by omega) (fun c4 => ?_) (fun c4 => ?_)
      · refine xt_iconst (v := nI 0) C dX4_splitArea_24 rfl ?_
        refine xt_istore_n (lo' := [_, _, _, _]) C dX4_splitArea_25 (Nat.le_of_ble_eq_true rfl) rfl rfl ?_
        have hy9 : y = r := by omega
        subst hy9
        have h9 := loopC (c + 1) 0 g (by omega) (by omega)
        rw [xt_C_0] at h9
        exact h9
      · refine xt_aload_n C dX4_splitArea_7 rfl ?_
        refine xt_iconst (v := nI 0) C dX4_splitArea_8 rfl ?_
        refine xt_iload_n C dX4_splitArea_9 rfl ?_
        refine xt_cSN C ms_X5_placeOf lkX4_88 ct_place rfl (by decide) rfl (Nat.le_of_ble_eq_true rfl) dX4_splitArea_10 ?_
        refine xt_iconst (v := nI 1) C dX4_splitArea_13 rfl ?_
        refine xt_iload_n C dX4_splitArea_14 rfl ?_
        refine xt_cVpn C mv_X4_splitLine lkX4_124 (ct_splitLine (by omega) (by decide) (fun i hi9 => by omega)) rfl (by decide) (xt_cl33 _ _) rfl (by decide) rfl (Nat.le_of_ble_eq_true rfl) dX4_splitArea_15 (fun S9 hq9 => ?_)
        obtain ⟨g9, f9, rfl, hp9⟩ := hq9
        refine xt_iincN (z := 1) (lo' := [_, _, _, _]) C dX4_splitArea_18 rfl rfl rfl ?_
        refine xt_goto (tgt := 2) C dX4_splitArea_21 (by decide) ?_
        have e9 := xt_R_s (F := xt_sp c) (f := S.2.1 35) (by omega) xt_sp_o hp9
        subst e9
        rw [xt_sA_4 (by decide)]
        exact ih (y + 1) _ (by omega) (by omega)
  refine xt_iconst (v := nI 0) C dX4_splitArea_0 rfl ?_
  refine xt_istore_n (lo' := [_, _, _, _]) C dX4_splitArea_1 (Nat.le_of_ble_eq_true rfl) rfl rfl ?_
  have h9 := loopR (r + 1) 0 (S.2.1 41) (by omega) (by omega)
  rw [xt_R_0, show xt_sA S 41 (S.2.1 41) = S from xt_sA_self, show xt_sA S 35 (S.2.1 35) = S from xt_sA_self] at h9
  exact h9
set_option maxRecDepth 20000 in
set_option maxHeartbeats 2000000 in
theorem ct_joinLevels {lf tp w h dp bo : Nat} (hT : xt_Tn S lf tp w h dp bo) {z : Nat} (hz : z ≤ 1) : xt_Ct E l yX4_joinLevels cX4_joinLevels 6 none 3 76 0 0 [.ref (E.1 33), .int (nI z)] S (xt_Ep none (fun S9 => ∃ g9, S9 = xt_sA (xt_sA S 41 g9) 40 (xt_jn z w h dp (S.2.1 40)))) := by
  refine xt_body (by decide +kernel) (xt_all rfl) (Nat.le_of_ble_eq_true rfl) (fun cx C hl9 => ?_)
  show xt_X E cx _ 0 0 0 [some (.ref (E.1 33)), some (.int (nI z)), none, none, none, none] [] S
  have hT9 := hT
  obtain ⟨t0, t1, t2, t3, t4, t5, g1, g2, g3, g4, g5, g6⟩ := hT
  have loop : ∀ (d m : Nat) (f g : Nat → Int32), m ≤ dp → xt_jn z w h m f = xt_jn z w h dp (S.2.1 40) → m ≤ dp → m + 1 ≤ d → xt_X E cx (xt_ZM E cx 0 0 (xt_Ep none (fun S9 => ∃ g9, S9 = xt_sA (xt_sA S 41 g9) 40 (xt_jn z w h dp (S.2.1 40))))) 0 0 5 [some (.ref (E.1 33)), some (.int (nI z)), some (.int (nI m)), none, none, none] [] (xt_sA (xt_sA S 41 g) 40 f) := by
    intro d
    induction d with
    | zero => intro m f g h0 hf hm h1; exact absurd h1 (by omega)
    | succ d ih =>
      intro m f g h0 hf hm h1
      refine xt_iload_n C dX4_joinLevels_5 rfl ?_
      refine xt_if_leN (tgt := 97) C dX4_joinLevels_6 (by decide) (by omega) (fun c6 => ?_) (fun c6 => ?_)
      · exact xt_vret C dX4_joinLevels_97 ⟨by decide, by decide⟩ ⟨rfl, g, by rw [← hf, show m = 0 by omega]; rfl⟩
      · obtain ⟨m9, rfl⟩ : ∃ q, m = q + 1 := ⟨m - 1, by omega⟩
        have w1 := xt_lo_le (n := w) (k := m9) (by omega)
        have w2 := xt_lo_le (n := h) (k := m9) (by omega)
        refine xt_aload_n C dX4_joinLevels_9 rfl ?_
        refine xt_get (f := 2) C xt_u4 rfl (by decide) (xt_cl33 _ _) (by decide) lkX4_55 (xt_vI t2) dX4_joinLevels_10 ?_
        refine xt_iload_n C dX4_joinLevels_13 rfl ?_
        refine xt_iconst (v := nI 1) C dX4_joinLevels_14 rfl ?_
        refine xt_isubN C dX4_joinLevels_15 (by omega) ?_
        refine xt_cS C ms_X4_lows lkX4_74 (ct_lows (by omega) (by omega)) rfl (by decide) rfl (Nat.le_of_ble_eq_true rfl) dX4_joinLevels_16 ?_
        refine xt_istore_n (lo' := [_, _, _, _, _, _]) C dX4_joinLevels_19 (Nat.le_of_ble_eq_true rfl) rfl rfl ?_
        refine xt_aload_n C dX4_joinLevels_20 rfl ?_
        refine xt_get (f := 3) C xt_u4 rfl (by decide) (xt_cl33 _ _) (by decide) lkX4_61 (xt_vI t3) dX4_joinLevels_21 ?_
        refine xt_iload_n C dX4_joinLevels_24 rfl ?_
        refine xt_iconst (v := nI 1) C dX4_joinLevels_25 rfl ?_
        refine xt_isubN C dX4_joinLevels_26 (by omega) ?_
        refine xt_cS C ms_X4_lows lkX4_74 (ct_lows (by omega) (by omega)) rfl (by decide) rfl (Nat.le_of_ble_eq_true rfl) dX4_joinLevels_27 ?_
        refine xt_istore (lo' := [_, _, _, _, _, _]) C dX4_joinLevels_30 (Nat.le_of_ble_eq_true rfl) rfl rfl ?_
        refine xt_iconst (v := nI 0) C dX4_joinLevels_32 rfl ?_
        refine xt_istore (lo' := [_, _, _, _, _, _]) C dX4_joinLevels_33 (Nat.le_of_ble_eq_true rfl) rfl rfl ?_
        have loopR : ∀ (dr y : Nat) (g : Nat → Int32), y ≤ (xt_lo h m9) →  (xt_lo h m9) + 1 ≤ y + dr → xt_X E cx (xt_ZM E cx 0 0 (xt_Ep none (fun S9 => ∃ g9, S9 = xt_sA (xt_sA S 41 g9) 40 (xt_jn z w h dp (S.2.1 40))))) 0 0 65 [some (.ref (E.1 33)), some (.int (nI z)), some (.int (nI (m9 + 1))), some (.int (nI (xt_lo w m9))), some (.int (nI (xt_lo h m9))), some (.int (nI y))] [] (xt_sA (xt_sA S 41 g) 40 (xt_R (xt_jl z (xt_lo w m9)) y (xt_C (xt_jl z (xt_lo h m9)) (xt_lo w m9) f))) := by
          intro dr
          induction dr with
          | zero => intro y g h0y  h1y; exact absurd h1y (by omega)
          | succ dr ihr =>
            intro y g h0y  h1y
            refine xt_iload C dX4_joinLevels_65 rfl ?_
            refine xt_iload C dX4_joinLevels_67 rfl ?_
            refine xt_icmp_geN (tgt := 91) C dX4_joinLevels_69 (by decide) (by omega) (by omega) (fun c69 => ?_) (fun c69 => ?_)
            · refine xt_iincM (a := m9) (lo' := [_, _, _, _, _, _]) C dX4_joinLevels_91 rfl rfl rfl ?_
              refine xt_goto (tgt := 5) C dX4_joinLevels_94 (by decide) ?_
              have hy9 : y = xt_lo h m9 := by omega
              subst hy9
              exact xt_fg (by repeat' constructor) (ih m9 _ _ (by omega) (by rw [← hf]; rfl) (by omega) (by omega))
            · refine xt_aload_n C dX4_joinLevels_72 rfl ?_
              refine xt_iconst (v := nI 0) C dX4_joinLevels_73 rfl ?_
              refine xt_iload C dX4_joinLevels_74 rfl ?_
              refine xt_cSN C ms_X5_placeOf lkX4_88 ct_place rfl (by decide) rfl (Nat.le_of_ble_eq_true rfl) dX4_joinLevels_76 ?_
              refine xt_iconst (v := nI 1) C dX4_joinLevels_79 rfl ?_
              refine xt_iload_n C dX4_joinLevels_80 rfl ?_
              refine xt_iload_n C dX4_joinLevels_81 rfl ?_
              refine xt_cVpn C mv_X4_joinLine lkX4_132 (ct_joinLine (by omega) (by decide) hz (fun i hi9 => by omega)) rfl (by decide) (xt_cl33 _ _) rfl (by decide) rfl (Nat.le_of_ble_eq_true rfl) dX4_joinLevels_82 (fun S9 hq9 => ?_)
              obtain ⟨g9, f9, rfl, hp9⟩ := hq9
              refine xt_iincN (z := 1) (lo' := [_, _, _, _, _, _]) C dX4_joinLevels_85 rfl rfl rfl ?_
              refine xt_goto (tgt := 65) C dX4_joinLevels_88 (by decide) ?_
              have e9 := xt_R_s (F := xt_jl z (xt_lo w m9)) (f := (xt_C (xt_jl z (xt_lo h m9)) (xt_lo w m9) f)) (by omega) xt_jl_o hp9
              subst e9
              rw [xt_sA_4 (by decide)]
              exact ihr (y + 1) _ (by omega) (by omega)
        have loopC : ∀ (dc x : Nat) (g : Nat → Int32), x ≤ (xt_lo w m9) →  (xt_lo w m9) + 1 ≤ x + dc → xt_X E cx (xt_ZM E cx 0 0 (xt_Ep none (fun S9 => ∃ g9, S9 = xt_sA (xt_sA S 41 g9) 40 (xt_jn z w h dp (S.2.1 40))))) 0 0 35 [some (.ref (E.1 33)), some (.int (nI z)), some (.int (nI (m9 + 1))), some (.int (nI (xt_lo w m9))), some (.int (nI (xt_lo h m9))), some (.int (nI x))] [] (xt_sA (xt_sA S 41 g) 40 (xt_C (xt_jl z (xt_lo h m9)) x f)) := by
          intro dc
          induction dc with
          | zero => intro x g h0x  h1x; exact absurd h1x (by omega)
          | succ dc ihc =>
            intro x g h0x  h1x
            refine xt_iload C dX4_joinLevels_35 rfl ?_
            refine xt_iload_n C dX4_joinLevels_37 rfl ?_
            refine xt_icmp_geN (tgt := 62) C dX4_joinLevels_38 (by decide) (by omega) (by omega) (fun c38 => ?_) (fun c38 => ?_)
            · refine xt_iconst (v := nI 0) C dX4_joinLevels_62 rfl ?_
              refine xt_istore (lo' := [_, _, _, _, _, _]) C dX4_joinLevels_63 (Nat.le_of_ble_eq_true rfl) rfl rfl ?_
              have hx9 : x = xt_lo w m9 := by omega
              subst hx9
              have h9 := loopR (xt_lo h m9 + 1) 0 g (by omega) (by omega)
              rw [xt_R_0] at h9
              exact h9
            · refine xt_aload_n C dX4_joinLevels_41 rfl ?_
              refine xt_iload C dX4_joinLevels_42 rfl ?_
              refine xt_iconst (v := nI 0) C dX4_joinLevels_44 rfl ?_
              refine xt_cSN C ms_X5_placeOf lkX4_88 ct_place rfl (by decide) rfl (Nat.le_of_ble_eq_true rfl) dX4_joinLevels_45 ?_
              refine xt_bipush (v := nI 8) C dX4_joinLevels_48 (by decide) ?_
              refine xt_iload C dX4_joinLevels_50 rfl ?_
              refine xt_iload_n C dX4_joinLevels_52 rfl ?_
              refine xt_cVpn C mv_X4_joinLine lkX4_132 (ct_joinLine (by omega) (by decide) hz (fun i hi9 => by omega)) rfl (by decide) (xt_cl33 _ _) rfl (by decide) rfl (Nat.le_of_ble_eq_true rfl) dX4_joinLevels_53 (fun S9 hq9 => ?_)
              obtain ⟨g9, f9, rfl, hp9⟩ := hq9
              refine xt_iincN (z := 1) (lo' := [_, _, _, _, _, _]) C dX4_joinLevels_56 rfl rfl rfl ?_
              refine xt_goto (tgt := 35) C dX4_joinLevels_59 (by decide) ?_
              have e9 := xt_C_s (F := xt_jl z (xt_lo h m9)) (f := f) (by omega) xt_jl_o hp9
              subst e9
              rw [xt_sA_4 (by decide)]
              exact ihc (x + 1) _ (by omega) (by omega)
        have h9 := loopC (xt_lo w m9 + 1) 0 g (by omega) (by omega)
        rw [xt_C_0] at h9
        exact xt_fg (by repeat' constructor) h9
  refine xt_aload_n C dX4_joinLevels_0 rfl ?_
  refine xt_get (f := 4) C xt_u4 rfl (by decide) (xt_cl33 _ _) (by decide) lkX4_68 (xt_vI t4) dX4_joinLevels_1 ?_
  refine xt_istore_n (lo' := [_, _, _, _, _, _]) C dX4_joinLevels_4 (Nat.le_of_ble_eq_true rfl) rfl rfl ?_
  have h9 := loop (dp + 1) dp (S.2.1 40) (S.2.1 41) (by omega) rfl (by omega) (by omega)
  rw [show xt_sA S 41 (S.2.1 41) = S from xt_sA_self, show xt_sA S 40 (S.2.1 40) = S from xt_sA_self] at h9
  exact xt_fg (by repeat' constructor) h9
end XC11
