/-! THE PICTURE'S WRITES -/
section XC4
variable {E : xt_Ev} {l : Launch} {S : xt_St}
/-- a rectangle's step: a place gets v; how many were other -/
def xt_ps (v : Int32) (p : Nat) (q : (Nat → Int32) × Int32) : (Nat → Int32) × Int32 := (upd q.1 p v, if q.1 p = v then q.2 else q.2 + 1)
theorem xt_ps_t {v : Int32} {p : Nat} {q : (Nat → Int32) × Int32} (h : q.1 p = v) : xt_ps v p q = (upd q.1 p v, q.2) := by unfold xt_ps; rw [if_pos h]
theorem xt_ps_f {v : Int32} {p : Nat} {q : (Nat → Int32) × Int32} (h : ¬ q.1 p = v) : xt_ps v p q = (upd q.1 p v, q.2 + 1) := by unfold xt_ps; rw [if_neg h]
def xt_paint (c lf tp w h : Nat) (v : Int32) (f : Nat → Int32) : (Nat → Int32) × Int32 := xt_it (fun y q => xt_it (fun x q => xt_ps v ((tp + y) * c + (lf + x)) q) w q) h (f, 0)
def xt_add2 (c lf tp w h : Nat) (by_ : Int32) (f : Nat → Int32) : Nat → Int32 := xt_it (fun y f => xt_it (fun x f => upd f ((tp + y) * c + (lf + x)) (f ((tp + y) * c + (lf + x)) + by_)) w f) h f
/-- two tiles are exchanged: a pixel's step -/
def xt_xs (p p2 : Nat) (q : (Nat → Int32) × Int32) : (Nat → Int32) × Int32 := (upd (upd q.1 p (q.1 p2)) p2 (q.1 p), if q.1 p = q.1 p2 then q.2 else q.2 + 1)
theorem xt_xs_t {p p2 : Nat} {q : (Nat → Int32) × Int32} (h : q.1 p = q.1 p2) : xt_xs p p2 q = (upd (upd q.1 p (q.1 p2)) p2 (q.1 p), q.2) := by unfold xt_xs; rw [if_pos h]
theorem xt_xs_f {p p2 : Nat} {q : (Nat → Int32) × Int32} (h : ¬ q.1 p = q.1 p2) : xt_xs p p2 q = (upd (upd q.1 p (q.1 p2)) p2 (q.1 p), q.2 + 1) := by unfold xt_xs; rw [if_neg h]
def xt_exch (c lf tp lf2 tp2 w h : Nat) (f : Nat → Int32) : (Nat → Int32) × Int32 := xt_it (fun y q => xt_it (fun x q => xt_xs ((tp + y) * c + (lf + x)) ((tp2 + y) * c + (lf2 + x)) q) w q) h (f, 0)
def xt_zero (n : Nat) (f : Nat → Int32) : Nat → Int32 := fun j => if j < n then 0 else f j
theorem xt_zero_s {f : Nat → Int32} {i : Nat} : upd (xt_zero i f) i 0 = xt_zero (i + 1) f := by
  funext j
  unfold upd xt_zero
  by_cases h : j = i
  · simp [h]
  · by_cases h2 : j < i
    · simp [h, h2, Nat.lt_succ_of_lt h2]
    · have : ¬ j < i + 1 := by omega
      simp [h, h2, this]
theorem xt_zero_0 {f : Nat → Int32} : xt_zero 0 f = f := by funext j; simp [xt_zero]
set_option maxRecDepth 20000 in
set_option maxHeartbeats 2000000 in
theorem ct_clear {c2 r2 : Nat} : xt_Ct E l yX1_clear cX1_clear 4 none 1 22 0 0 [.ref (E.1 1), .int (nI c2), .int (nI r2)] S (xt_Eq none (xt_sA (xt_sA (xt_sN (xt_sN S 1 0 (nI c2)) 1 1 (nI r2)) 2 (xt_zero 256 (S.2.1 2))) 3 (xt_zero 256 (S.2.1 3)))) := by
  refine xt_body (by decide +kernel) (xt_all rfl) (Nat.le_of_ble_eq_true rfl) (fun cx C hl9 => ?_)
  show xt_X E cx _ 0 0 0 [some (.ref (E.1 1)), some (.int (nI c2)), some (.int (nI r2)), none] [] S
  have loop : ∀ (d i : Nat), i ≤ 256 →  256 + 1 ≤ i + d → xt_X E cx (xt_ZM E cx 0 0 (xt_Eq none (xt_sA (xt_sA (xt_sN (xt_sN S 1 0 (nI c2)) 1 1 (nI r2)) 2 (xt_zero 256 (S.2.1 2))) 3 (xt_zero 256 (S.2.1 3))))) 0 0 12 [some (.ref (E.1 1)), some (.int (nI c2)), some (.int (nI r2)), some (.int (nI i))] [] (xt_sA (xt_sA (xt_sN (xt_sN S 1 0 (nI c2)) 1 1 (nI r2)) 2 (xt_zero i (S.2.1 2))) 3 (xt_zero i (S.2.1 3))) := by
    intro d
    induction d with
    | zero => intro i  h0i  h1i; exact absurd h1i (by omega)
    | succ d ih =>
      intro i  h0i  h1i
      refine xt_iload_n C dX1_clear_12 rfl ?_
      refine xt_sipush (v := nI 256) C dX1_clear_13 (by decide) ?_
      refine xt_icmp_geN (tgt := 43) C dX1_clear_16 (by decide) (by omega) (by omega) (fun c16 => ?_) (fun c16 => ?_)
      · exact xt_vret C dX1_clear_43 ⟨by decide, by decide⟩ (by rw [show i = 256 by omega]; exact ⟨rfl, rfl⟩)
      · refine xt_aload_n C dX1_clear_19 rfl ?_
        refine xt_get (f := 5) C xt_u1 rfl (by decide) (xt_cl1 _ _) (by decide) lkX1_27 rfl dX1_clear_20 ?_
        refine xt_iload_n C dX1_clear_23 rfl ?_
        refine xt_iconst (v := nI 0) C dX1_clear_24 rfl ?_
        refine xt_cSNn C ms_X5_put lkX1_38 (ct_put (by decide) (xt_cl2 _) (by decide) (by omega)) rfl (by decide) rfl (Nat.le_of_ble_eq_true rfl) dX1_clear_25 ?_
        refine xt_aload_n C dX1_clear_28 rfl ?_
        refine xt_get (f := 6) C xt_u1 rfl (by decide) (xt_cl1 _ _) (by decide) lkX1_31 rfl dX1_clear_29 ?_
        refine xt_iload_n C dX1_clear_32 rfl ?_
        refine xt_iconst (v := nI 0) C dX1_clear_33 rfl ?_
        refine xt_cSNn C ms_X5_put lkX1_38 (ct_put (by decide) (xt_cl3 _) (by decide) (by omega)) rfl (by decide) rfl (Nat.le_of_ble_eq_true rfl) dX1_clear_34 ?_
        refine xt_iincN (z := 1) (lo' := [_, _, _, _]) C dX1_clear_37 rfl rfl rfl ?_
        refine xt_goto (tgt := 12) C dX1_clear_40 (by decide) ?_
        rw [show upd ((xt_sA (xt_sA (xt_sN (xt_sN S 1 0 (nI c2)) 1 1 (nI r2)) 2 (xt_zero i (S.2.1 2))) 3 (xt_zero i (S.2.1 3))).2.1 2) i (nI 0) = xt_zero (i + 1) (S.2.1 2) from xt_zero_s]
        rw [show upd ((xt_sA (xt_sA (xt_sA (xt_sN (xt_sN S 1 0 (nI c2)) 1 1 (nI r2)) 2 (xt_zero i (S.2.1 2))) 3 (xt_zero i (S.2.1 3))) 2 (xt_zero (i + 1) (S.2.1 2))).2.1 3) i (nI 0) = xt_zero (i + 1) (S.2.1 3) from xt_zero_s]
        rw [xt_sA_cm (i := 3) (j := 2) (by decide), xt_sA_sA, xt_sA_sA]
        exact ih (i + 1) (by omega) (by omega)
  refine xt_aload_n C dX1_clear_0 rfl ?_
  refine xt_iload_n C dX1_clear_1 rfl ?_
  refine xt_put (f := 0) C xt_u1 rfl (by decide) (xt_cl1 _ _) (by decide) tyX1 tyX1_ok nmX1 lkX1_9 rfl (tyX1_ok 0 (by decide)) rfl rfl (Nat.le_of_ble_eq_true rfl) rfl dX1_clear_2 ?_
  refine xt_aload_n C dX1_clear_5 rfl ?_
  refine xt_iload_n C dX1_clear_6 rfl ?_
  refine xt_put (f := 1) C xt_u1 rfl (by decide) (xt_cl1 _ _) (by decide) tyX1 tyX1_ok nmX1 lkX1_15 rfl (tyX1_ok 1 (by decide)) rfl rfl (Nat.le_of_ble_eq_true rfl) rfl dX1_clear_7 ?_
  refine xt_iconst (v := nI 0) C dX1_clear_10 rfl ?_
  refine xt_istore_n (lo' := [_, _, _, _]) C dX1_clear_11 (Nat.le_of_ble_eq_true rfl) rfl rfl ?_
  have h9 := loop (256 + 1) 0 (by omega) (by omega)
  rw [xt_zero_0, xt_zero_0, show xt_sA (xt_sN (xt_sN S 1 0 (nI c2)) 1 1 (nI r2)) 2 (S.2.1 2) = (xt_sN (xt_sN S 1 0 (nI c2)) 1 1 (nI r2)) from xt_sA_self, show xt_sA (xt_sN (xt_sN S 1 0 (nI c2)) 1 1 (nI r2)) 3 (S.2.1 3) = (xt_sN (xt_sN S 1 0 (nI c2)) 1 1 (nI r2)) from xt_sA_self] at h9
  exact h9
set_option maxRecDepth 20000 in
set_option maxHeartbeats 2000000 in
theorem ct_paint {c r sd lv bo : Nat} (hP : xt_Pic S 1 c r sd lv bo) {a : Nat} (hi : a < xt_NC) (ha : xt_ar E 0 a 256) {lf tp w h : Nat} (hw : lf + w ≤ c) (hh : tp + h ≤ r) (hw0 : 0 < w) (hh0 : 0 < h) {v : Int32} : xt_Ct E l yX1_paint cX1_paint 11 (some Jvm.ClassFile.FieldType.int) 1 22 0 0 [.ref (E.1 1), .ref (E.1 a), .int (nI lf), .int (nI tp), .int (nI (lf + w - 1)), .int (nI (tp + h - 1)), .int v] S (xt_Eq (some (.int (xt_paint c lf tp w h v (S.2.1 a)).2)) (xt_sA S a (xt_paint c lf tp w h v (S.2.1 a)).1)) := by
  refine xt_body (by decide +kernel) (xt_all rfl) (Nat.le_of_ble_eq_true rfl) (fun cx C hl9 => ?_)
  show xt_X E cx _ 0 0 0 [some (.ref (E.1 1)), some (.ref (E.1 a)), some (.int (nI lf)), some (.int (nI tp)), some (.int (nI (lf + w - 1))), some (.int (nI (tp + h - 1))), some (.int v), none, none, none, none] [] S
  have hP9 := hP
  obtain ⟨hc, hr, hs, hv, hb, b1, b2, b3, b4, b5, b6, b7⟩ := hP
  have out1 : ∀ (d y : Nat), y ≤ h →  h + 1 ≤ y + d → xt_X E cx (xt_ZM E cx 0 0 (xt_Eq (some (.int (xt_paint c lf tp w h v (S.2.1 a)).2)) (xt_sA S a (xt_paint c lf tp w h v (S.2.1 a)).1))) 0 0 6 [some (.ref (E.1 1)), some (.ref (E.1 a)), some (.int (nI lf)), some (.int (nI tp)), some (.int (nI (lf + w - 1))), some (.int (nI (tp + h - 1))), some (.int v), some (.int (xt_it (fun y q => xt_it (fun x q => xt_ps v ((tp + y) * c + (lf + x)) q) w q) y (S.2.1 a, 0)).2), some (.int (nI (tp + y))), none, none] [] (xt_sA S a (xt_it (fun y q => xt_it (fun x q => xt_ps v ((tp + y) * c + (lf + x)) q) w q) y (S.2.1 a, 0)).1) := by
    intro d
    induction d with
    | zero => intro y  h0y  h1y; exact absurd h1y (by omega)
    | succ d ih =>
      intro y  h0y  h1y
      refine xt_iload C dX1_paint_6 rfl ?_
      refine xt_iload C dX1_paint_8 rfl ?_
      refine xt_icmp_gtN (tgt := 67) C dX1_paint_10 (by decide) (by omega) (by omega) (fun c10 => ?_) (fun c10 => ?_)
      · refine xt_iload C dX1_paint_67 rfl ?_
        exact xt_iret C dX1_paint_69 ⟨by decide, by decide⟩ (by have hy9 : y = h := (by omega); rw [hy9]; exact ⟨rfl, rfl⟩)
      · refine xt_iload_n C dX1_paint_13 rfl ?_
        refine xt_istore (lo' := [_, _, _, _, _, _, _, _, _, _, _]) C dX1_paint_14 (Nat.le_of_ble_eq_true rfl) rfl rfl ?_
        have in2 : ∀ (d2 x : Nat), x ≤ w →  w + 1 ≤ x + d2 → xt_X E cx (xt_ZM E cx 0 0 (xt_Eq (some (.int (xt_paint c lf tp w h v (S.2.1 a)).2)) (xt_sA S a (xt_paint c lf tp w h v (S.2.1 a)).1))) 0 0 16 [some (.ref (E.1 1)), some (.ref (E.1 a)), some (.int (nI lf)), some (.int (nI tp)), some (.int (nI (lf + w - 1))), some (.int (nI (tp + h - 1))), some (.int v), some (.int (xt_it (fun x q => xt_ps v ((tp + y) * c + (lf + x)) q) x (xt_it (fun y q => xt_it (fun x q => xt_ps v ((tp + y) * c + (lf + x)) q) w q) y (S.2.1 a, 0))).2), some (.int (nI (tp + y))), some (.int (nI (lf + x))), none] [] (xt_sA S a (xt_it (fun x q => xt_ps v ((tp + y) * c + (lf + x)) q) x (xt_it (fun y q => xt_it (fun x q => xt_ps v ((tp + y) * c + (lf + x)) q) w q) y (S.2.1 a, 0))).1) := by
          intro d2
          induction d2 with
          | zero => intro x  h0x  h1x; exact absurd h1x (by omega)
          | succ d2 ih2 =>
            intro x  h0x  h1x
            refine xt_iload C dX1_paint_16 rfl ?_
            refine xt_iload C dX1_paint_18 rfl ?_
            refine xt_icmp_gtN (tgt := 61) C dX1_paint_20 (by decide) (by omega) (by omega) (fun c20 => ?_) (fun c20 => ?_)
            · refine xt_iincN (z := 1) (lo' := [_, _, _, _, _, _, _, _, _, _, _]) C dX1_paint_61 rfl rfl rfl ?_
              refine xt_goto (tgt := 6) C dX1_paint_64 (by decide) ?_
              have hx9 : x = w := by omega
              subst hx9
              exact xt_fg (by repeat' constructor) (ih (y + 1) (by omega) (by omega))
            · refine xt_aload_n C dX1_paint_23 rfl ?_
              refine xt_iload C dX1_paint_24 rfl ?_
              refine xt_iload C dX1_paint_26 rfl ?_
              refine xt_cV C mv_X1_indexOf lkX1_46 (ct_indexOf (by exact hP9)) rfl (by decide) (xt_cl1 _ _) rfl (by decide) rfl (Nat.le_of_ble_eq_true rfl) dX1_paint_28 ?_
              refine xt_istore (lo' := [_, _, _, _, _, _, _, _, _, _, _]) C dX1_paint_31 (Nat.le_of_ble_eq_true rfl) rfl rfl ?_
              refine xt_aload_n C dX1_paint_33 rfl ?_
              refine xt_iload C dX1_paint_34 rfl ?_
              refine xt_cSN C ms_X5_at lkX1_34 (ct_at hi ha (by decide) (xt_ix (c := c) (r := r) (by omega) (by omega) b2 b4).1 (v := (xt_it (fun x q => xt_ps v ((tp + y) * c + (lf + x)) q) x (xt_it (fun y q => xt_it (fun x q => xt_ps v ((tp + y) * c + (lf + x)) q) w q) y (S.2.1 a, 0))).1 ((tp + y) * c + (lf + x))) (by rw [xt_sA_s])) rfl (by decide) rfl (Nat.le_of_ble_eq_true rfl) dX1_paint_36 ?_
              refine xt_iload C dX1_paint_39 rfl ?_
              refine xt_icmp_eq (tgt := 47) C dX1_paint_41 (by decide) (fun c41 => ?_) (fun c41 => ?_)
              · refine xt_aload_n C dX1_paint_47 rfl ?_
                refine xt_iload C dX1_paint_48 rfl ?_
                refine xt_iload C dX1_paint_50 rfl ?_
                refine xt_cSNn C ms_X5_put lkX1_38 (ct_put hi ha (by decide) (xt_ix (c := c) (r := r) (by omega) (by omega) b2 b4).1) rfl (by decide) rfl (Nat.le_of_ble_eq_true rfl) dX1_paint_52 ?_
                refine xt_iincN (z := 1) (lo' := [_, _, _, _, _, _, _, _, _, _, _]) C dX1_paint_55 rfl rfl rfl ?_
                refine xt_goto (tgt := 16) C dX1_paint_58 (by decide) ?_
                rw [xt_sA_s, xt_sA_sA]
                have h9 := ih2 (x + 1) (by omega) (by omega)
                rw [show xt_it (fun x q => xt_ps v ((tp + y) * c + (lf + x)) q) (x + 1) (xt_it (fun y q => xt_it (fun x q => xt_ps v ((tp + y) * c + (lf + x)) q) w q) y (S.2.1 a, 0)) = xt_ps v ((tp + y) * c + (lf + x)) (xt_it (fun x q => xt_ps v ((tp + y) * c + (lf + x)) q) x (xt_it (fun y q => xt_it (fun x q => xt_ps v ((tp + y) * c + (lf + x)) q) w q) y (S.2.1 a, 0))) from rfl] at h9
                first
                | rw [xt_ps_t c41] at h9
                | rw [xt_ps_f c41] at h9
                exact xt_fg (by repeat' constructor) h9
              · refine xt_iinc (lo' := [_, _, _, _, _, _, _, _, _, _, _]) C dX1_paint_44 rfl rfl rfl rfl ?_
                refine xt_aload_n C dX1_paint_47 rfl ?_
                refine xt_iload C dX1_paint_48 rfl ?_
                refine xt_iload C dX1_paint_50 rfl ?_
                refine xt_cSNn C ms_X5_put lkX1_38 (ct_put hi ha (by decide) (xt_ix (c := c) (r := r) (by omega) (by omega) b2 b4).1) rfl (by decide) rfl (Nat.le_of_ble_eq_true rfl) dX1_paint_52 ?_
                refine xt_iincN (z := 1) (lo' := [_, _, _, _, _, _, _, _, _, _, _]) C dX1_paint_55 rfl rfl rfl ?_
                refine xt_goto (tgt := 16) C dX1_paint_58 (by decide) ?_
                rw [xt_sA_s, xt_sA_sA]
                have h9 := ih2 (x + 1) (by omega) (by omega)
                rw [show xt_it (fun x q => xt_ps v ((tp + y) * c + (lf + x)) q) (x + 1) (xt_it (fun y q => xt_it (fun x q => xt_ps v ((tp + y) * c + (lf + x)) q) w q) y (S.2.1 a, 0)) = xt_ps v ((tp + y) * c + (lf + x)) (xt_it (fun x q => xt_ps v ((tp + y) * c + (lf + x)) q) x (xt_it (fun y q => xt_it (fun x q => xt_ps v ((tp + y) * c + (lf + x)) q) w q) y (S.2.1 a, 0))) from rfl] at h9
                first
                | rw [xt_ps_t c41] at h9
                | rw [xt_ps_f c41] at h9
                exact xt_fg (by repeat' constructor) h9
        exact in2 (w + 1) 0 (by omega) (by omega)
  refine xt_iconst (v := nI 0) C dX1_paint_0 rfl ?_
  refine xt_istore (lo' := [_, _, _, _, _, _, _, _, _, _, _]) C dX1_paint_1 (Nat.le_of_ble_eq_true rfl) rfl rfl ?_
  refine xt_iload_n C dX1_paint_3 rfl ?_
  refine xt_istore (lo' := [_, _, _, _, _, _, _, _, _, _, _]) C dX1_paint_4 (Nat.le_of_ble_eq_true rfl) rfl rfl ?_
  have h9 := out1 (h + 1) 0 (by omega) (by omega)
  rw [show (xt_it (fun y q => xt_it (fun x q => xt_ps v ((tp + y) * c + (lf + x)) q) w q) 0 (S.2.1 a, 0)).1 = S.2.1 a from rfl, xt_sA_self] at h9
  exact h9
end XC4
