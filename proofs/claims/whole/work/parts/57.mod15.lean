/-! THE MODEL: raise, swap, soften -/
section XM15
variable {E : xt_Ev} {l : Launch} {S : xt_St}
theorem xt_fl9_M {C : xt_St} {part c r sd lv bo : Nat} {g P : Nat → Int32} (hp : 5 ≤ part) (h : xt_fl9 part g P (S.2.1 50)) (hM : xt_Mp S c r sd lv bo) : xt_Mp (xt_sA C 50 g) c r sd lv bo := by
  unfold xt_Mp
  rw [xt_sA_s, h.2 0 (by omega), h.2 1 (by omega), h.2 2 (by omega), h.2 3 (by omega), h.2 4 (by omega)]
  exact hM
theorem xt_Mt_f {T : xt_St} {lf tp w h dp : Nat} (hM : xt_Mt S lf tp w h dp) (h1 : T.1 49 16 = S.1 49 16) (h2 : T.1 49 17 = S.1 49 17) (h3 : T.1 49 18 = S.1 49 18) (h4 : T.2.1 57 = S.2.1 57) (h5 : T.2.1 58 = S.2.1 58) : xt_Mt T lf tp w h dp := by
  unfold xt_Mt at hM ⊢
  rw [h1, h2, h3, h4, h5]
  exact hM
/-- places of a grid that are written one behind another, each once -/
def xt_gu (pos : Nat → Nat → Nat) (U : Nat → Nat → Int32 → Int32) (w h : Nat) (f : Nat → Int32) : Nat → Int32 := xt_it (fun y f => xt_it (fun x f => upd f (pos y x) (U y x (f (pos y x)))) w f) h f
theorem xt_gu_r {pos : Nat → Nat → Nat} {U : Nat → Nat → Int32 → Int32} {w y : Nat} (hi : ∀ x x', x < w → x' < w → pos y x = pos y x' → x = x') : ∀ n, n ≤ w → ∀ f : Nat → Int32, (∀ x, x < n → xt_it (fun x f => upd f (pos y x) (U y x (f (pos y x)))) n f (pos y x) = U y x (f (pos y x))) ∧ ∀ p, (∀ x, x < n → p ≠ pos y x) → xt_it (fun x f => upd f (pos y x) (U y x (f (pos y x)))) n f p = f p := by
  intro n
  induction n with
  | zero => exact fun _ f => ⟨fun x hx => absurd hx (Nat.not_lt_zero _), fun p _ => rfl⟩
  | succ n ih =>
    intro hn f
    obtain ⟨i1, i2⟩ := ih (by omega) f
    have e : xt_it (fun x f => upd f (pos y x) (U y x (f (pos y x)))) (n + 1) f = upd (xt_it (fun x f => upd f (pos y x) (U y x (f (pos y x)))) n f) (pos y n) (U y n (xt_it (fun x f => upd f (pos y x) (U y x (f (pos y x)))) n f (pos y n))) := rfl
    have e2 : xt_it (fun x f => upd f (pos y x) (U y x (f (pos y x)))) n f (pos y n) = f (pos y n) := i2 _ (fun x hx q => by have := hi n x (by omega) (by omega) q; omega)
    rw [e, e2]
    refine ⟨fun x hx => ?_, fun p hp => ?_⟩
    · by_cases z : x = n
      · rw [z, xt_up_s]
      · rw [xt_up_n (fun q => z (hi x n (by omega) (by omega) q))]
        exact i1 x (by omega)
    · rw [xt_up_n (hp n (by omega))]
      exact i2 p (fun x hx => hp x (by omega))
theorem xt_gu_g {pos : Nat → Nat → Nat} {U : Nat → Nat → Int32 → Int32} {w h : Nat} (hi : ∀ y x y' x', y < h → x < w → y' < h → x' < w → pos y x = pos y' x' → y = y' ∧ x = x') (f : Nat → Int32) : ∀ n, n ≤ h → (∀ y x, y < n → x < w → xt_gu pos U w n f (pos y x) = U y x (f (pos y x))) ∧ ∀ p, (∀ y x, y < n → x < w → p ≠ pos y x) → xt_gu pos U w n f p = f p := by
  intro n
  induction n with
  | zero => exact fun _ => ⟨fun y x hy => absurd hy (Nat.not_lt_zero _), fun p _ => rfl⟩
  | succ n ih =>
    intro hn
    obtain ⟨i1, i2⟩ := ih (by omega)
    have e : xt_gu pos U w (n + 1) f = xt_it (fun x f => upd f (pos n x) (U n x (f (pos n x)))) w (xt_gu pos U w n f) := rfl
    obtain ⟨r1, r2⟩ := xt_gu_r (pos := pos) (U := U) (w := w) (y := n) (fun x x' a b q => (hi n x n x' (by omega) a (by omega) b q).2) w (Nat.le_refl _) (xt_gu pos U w n f)
    rw [e]
    refine ⟨fun y x hy hx => ?_, fun p hp => ?_⟩
    · by_cases z : y = n
      · subst z
        rw [r1 x hx, i2 _ (fun y' x' a b q => by have := (hi y x y' x' (by omega) hx (by omega) b q).1; omega)]
      · rw [r2 _ (fun x' a q => z (hi y x n x' (by omega) hx (by omega) a q).1)]
        exact i1 y x (by omega) hx
    · rw [r2 p (fun x hx => hp n x (by omega) hx)]
      exact i2 p (fun y x hy hx => hp y x (by omega) hx)
theorem xt_pos_i {c a b x x' : Nat} (hx : x < c) (hx' : x' < c) (e : a * c + x = b * c + x') : a = b ∧ x = x' := by
  have h1 : (a * c + x) / c = a := by rw [Nat.add_comm, Nat.add_mul_div_right _ _ (by omega), Nat.div_eq_of_lt hx, Nat.zero_add]
  have h2 : (b * c + x') / c = b := by rw [Nat.add_comm, Nat.add_mul_div_right _ _ (by omega), Nat.div_eq_of_lt hx', Nat.zero_add]
  have h3 : a = b := by rw [← h1, ← h2, e]
  subst h3
  exact ⟨rfl, by omega⟩
def xt_pp9 (c lf tp : Nat) : Nat → Nat → Nat := fun y x => (tp + y) * c + (lf + x)
theorem xt_pp9_i {c lf tp w h : Nat} (hw : lf + w ≤ c) : ∀ y x y' x', y < h → x < w → y' < h → x' < w → xt_pp9 c lf tp y x = xt_pp9 c lf tp y' x' → y = y' ∧ x = x' := by
  intro y x y' x' _ hx _ hx' e
  have h9 := xt_pos_i (c := c) (a := tp + y) (b := tp + y') (x := lf + x) (x' := lf + x') (by omega) (by omega) e
  omega
theorem xt_add2_g {c lf tp w h : Nat} {b : Int32} {f : Nat → Int32} : xt_add2 c lf tp w h b f = xt_gu (xt_pp9 c lf tp) (fun _ _ v => v + b) w h f := rfl
theorem xt_put2_g {c lf tp w h : Nat} {J f : Nat → Int32} : xt_put2 c lf tp w h J f = xt_gu (xt_pp9 c lf tp) (fun y x _ => J (8 * y + x)) w h f := rfl
theorem xt_sum2_c {c lf tp w h : Nat} {f g : Nat → Int32} (e : ∀ y x, y < h → x < w → f ((tp + y) * c + (lf + x)) = g ((tp + y) * c + (lf + x))) : xt_sum2 f c lf tp w h = xt_sum2 g c lf tp w h := by
  unfold xt_sum2
  exact xt_it_c (fun y s hy => xt_it_c (fun x s hx => by rw [e y x hy hx]))
theorem xt_add2_s {c lf tp w h : Nat} {b : Int32} {f : Nat → Int32} (hw : lf + w ≤ c) : xt_sum2 (xt_add2 c lf tp w h b f) c lf tp w h = xt_sum2 (fun p => f p + b) c lf tp w h :=
  xt_sum2_c (fun y x hy hx => by rw [xt_add2_g]; exact (xt_gu_g (xt_pp9_i (h := h) hw) f h (Nat.le_refl _)).1 y x hy hx)
set_option maxRecDepth 20000 in
set_option maxHeartbeats 2000000 in
theorem ct_mraise {c r sd lv bo : Nat} (hM : xt_Mp S c r sd lv bo) {t : Nat} (ht : t < xt_nt c r sd) {v : Nat → Int32} (hvv : ∀ j, j < 256 → xt_mV S j = v j) {kp : Nat} (hu : S.1 49 3 = nI kp) (hk8 : kp ≤ 8) {by9 : Int32} (hby : -255 ≤ by9 ∧ by9 ≤ nI 255) (hov : ∀ y x, y < (xt_gh c r sd t) → x < (xt_gw c sd t) → xt_okv (v (((xt_gt c sd t) + y) * c + ((xt_gl c sd t) + x)) + by9)) : xt_Ct E l yX6_raise cX6_raise 7 (some Jvm.ClassFile.FieldType.int) 4 81 0 0 [.ref (E.1 49), .int (nI t), .int by9] S (xt_Ep (some (.int (xt_sum2 (fun p => v p + by9) c (xt_gl c sd t) (xt_gt c sd t) (xt_gw c sd t) (xt_gh c r sd t)))) (fun S9 => ∃ T g, xt_mfr (xt_sN S 49 0 (nI 0)) T ∧ S9 = xt_sA (xt_chg T kp) 50 g ∧ xt_fl9 5 g (xt_add2 c (xt_gl c sd t) (xt_gt c sd t) (xt_gw c sd t) (xt_gh c r sd t) by9 v) (S.2.1 50))) := by
  refine xt_body (by decide +kernel) (xt_all rfl) (Nat.le_of_ble_eq_true rfl) (fun cx C hl9 => ?_)
  show xt_X E cx _ 0 0 0 [some (.ref (E.1 49)), some (.int (nI t)), some (.int by9), none, none, none, none] [] S
  have hM9 := hM
  obtain ⟨hc, hr, hs, hv, hb, b1, b2, b3, b4, b5, b6, b7⟩ := hM
  have hn := xt_nt_b ⟨b1, b2⟩ ⟨b3, b4⟩ b5
  have hT := xt_tile_b ⟨b1, b2⟩ ⟨b3, b4⟩ b5 ht
  have hdl : (xt_tD c r sd lv t) ≤ 3 := xt_dep_le.2
  refine xt_aload_n C dX6_raise_0 rfl ?_
  refine xt_iconst (v := nI 0) C dX6_raise_1 rfl ?_
  refine xt_put (f := 0) C xt_u6 rfl (by decide) (xt_cl49 _ _) (by decide) tyX6 tyX6_ok nmX6 lkX6_74 rfl (tyX6_ok 0 (by decide)) rfl rfl (Nat.le_of_ble_eq_true rfl) rfl dX6_raise_2 ?_
  refine xt_aload_n C dX6_raise_5 rfl ?_
  refine xt_iload_n C dX6_raise_6 rfl ?_
  refine xt_cV C mv_X6_isTile lkX6_165 (ct_isTile (by exact hM9)) rfl (by decide) (xt_cl49 _ _) rfl (by decide) rfl (Nat.le_of_ble_eq_true rfl) dX6_raise_7 ?_
  refine xt_if_neB (tgt := 19) C dX6_raise_10 (by decide) (fun c10 => ?_) (fun c10 => ?_)
  · refine xt_iload_n C dX6_raise_19 rfl ?_
    refine xt_sipush (v := -255) C dX6_raise_20 (by decide) ?_
    refine xt_sipush (v := nI 255) C dX6_raise_23 (by decide) ?_
    refine xt_cS C ms_X6_in lkX6_81 ct_in rfl (by decide) rfl (Nat.le_of_ble_eq_true rfl) dX6_raise_26 ?_
    refine xt_if_neB (tgt := 38) C dX6_raise_29 (by decide) (fun c29 => ?_) (fun c29 => ?_)
    · refine xt_aload_n C dX6_raise_38 rfl ?_
      refine xt_iload_n C dX6_raise_39 rfl ?_
      refine xt_cVpn C mv_X6_takes lkX6_112 (ct_takes (by exact hM9) ht) rfl (by decide) (xt_cl49 _ _) rfl (by decide) rfl (Nat.le_of_ble_eq_true rfl) dX6_raise_40 (fun S9 hq9 => ?_)
      obtain ⟨hfr, hMt⟩ := hq9
      rename xt_St => T1
      obtain ⟨m1, m2, m3, m4, g1, g2, g3, g4, g5, g6, g7⟩ := id hMt
      refine xt_iconst (v := nI 0) C dX6_raise_43 rfl ?_
      refine xt_istore_n (lo' := [_, _, _, _, _, _, _]) C dX6_raise_44 (Nat.le_of_ble_eq_true rfl) rfl rfl ?_
      refine xt_iconst (v := nI 0) C dX6_raise_45 rfl ?_
      refine xt_istore (lo' := [_, _, _, _, _, _, _]) C dX6_raise_46 (Nat.le_of_ble_eq_true rfl) rfl rfl ?_
      have out1 : ∀ (d1 y : Nat), y ≤ (xt_gh c r sd t) →  (xt_gh c r sd t) + 1 ≤ y + d1 → xt_X E cx (xt_ZM E cx 0 0 (xt_Ep (some (.int (xt_sum2 (fun p => v p + by9) c (xt_gl c sd t) (xt_gt c sd t) (xt_gw c sd t) (xt_gh c r sd t)))) (fun S9 => ∃ T g, xt_mfr (xt_sN S 49 0 (nI 0)) T ∧ S9 = xt_sA (xt_chg T kp) 50 g ∧ xt_fl9 5 g (xt_add2 c (xt_gl c sd t) (xt_gt c sd t) (xt_gw c sd t) (xt_gh c r sd t) by9 v) (S.2.1 50)))) 0 0 48 [some (.ref (E.1 49)), some (.int (nI t)), some (.int by9), some (.int (xt_it (fun y s => xt_it (fun x s => s + (v (((xt_gt c sd t) + y) * c + ((xt_gl c sd t) + x)) + by9)) (xt_gw c sd t) s) y 0)), some (.int (nI y)), none, none] [] T1 := by
        intro d1
        induction d1 with
        | zero => intro y  h0y  h1y; exact absurd h1y (by omega)
        | succ d1 ih1 =>
          intro y  h0y  h1y
          refine xt_iload C dX6_raise_48 rfl ?_
          refine xt_aload_n C dX6_raise_50 rfl ?_
          refine xt_get (f := 20) C xt_u6 rfl (by decide) (xt_cl49 _ _) (by decide) lkX6_41 rfl dX6_raise_51 ?_
          refine xt_iconst (v := nI 0) C dX6_raise_54 rfl ?_
          refine xt_ialdN C (by decide) (xt_cl58 _) (by decide) (by decide) (show T1.2.1 58 0 = nI (xt_gh c r sd t) from by rw [(m4 0 (by omega)).2, xt_lo_0]) dX6_raise_55 ?_
          refine xt_icmp_geN (tgt := 159) C dX6_raise_56 (by decide) (by omega) (by omega) (fun c56 => ?_) (fun c56 => ?_)
          · refine xt_aload_n C dX6_raise_159 rfl ?_
            refine xt_cVn C mv_X6_changes lkX6_145 (ct_changes ((hfr.1 49 3 (by omega)).trans (by exact hu)) hk8) rfl (by decide) (xt_cl49 _ _) rfl (by decide) rfl (Nat.le_of_ble_eq_true rfl) dX6_raise_160 ?_
            refine xt_iconst (v := nI 0) C dX6_raise_163 rfl ?_
            refine xt_istore (lo' := [_, _, _, _, _, _, _]) C dX6_raise_164 (Nat.le_of_ble_eq_true rfl) rfl rfl ?_
            have hy9 : y = (xt_gh c r sd t) := by omega
            subst hy9
            clear ih1
            have out1b : ∀ (d1 y : Nat) (g : Nat → Int32), y ≤ (xt_gh c r sd t) → (xt_fl9 5 g (xt_it (fun y f => xt_it (fun x f => upd f (((xt_gt c sd t) + y) * c + ((xt_gl c sd t) + x)) (f (((xt_gt c sd t) + y) * c + ((xt_gl c sd t) + x)) + by9)) (xt_gw c sd t) f) y v) (S.2.1 50)) → (xt_gh c r sd t) + 1 ≤ y + d1 → xt_X E cx (xt_ZM E cx 0 0 (xt_Ep (some (.int (xt_sum2 (fun p => v p + by9) c (xt_gl c sd t) (xt_gt c sd t) (xt_gw c sd t) (xt_gh c r sd t)))) (fun S9 => ∃ T g, xt_mfr (xt_sN S 49 0 (nI 0)) T ∧ S9 = xt_sA (xt_chg T kp) 50 g ∧ xt_fl9 5 g (xt_add2 c (xt_gl c sd t) (xt_gt c sd t) (xt_gw c sd t) (xt_gh c r sd t) by9 v) (S.2.1 50)))) 0 0 166 [some (.ref (E.1 49)), some (.int (nI t)), some (.int by9), some (.int (xt_sum2 (fun p => v p + by9) c (xt_gl c sd t) (xt_gt c sd t) (xt_gw c sd t) (xt_gh c r sd t))), some (.int (nI y)), none, none] [] (xt_sA (xt_chg T1 kp) 50 g) := by
              intro d1
              induction d1 with
              | zero => intro y g h0y hg h1y; exact absurd h1y (by omega)
              | succ d1 ih1 =>
                intro y g h0y hg h1y
                have hMg : xt_Mp (xt_sA (xt_chg T1 kp) 50 g) c r sd lv bo := xt_fl9_M (by decide) hg hM9
                refine xt_iload C dX6_raise_166 rfl ?_
                refine xt_aload_n C dX6_raise_168 rfl ?_
                refine xt_get (f := 20) C xt_u6 rfl (by decide) (xt_cl49 _ _) (by decide) lkX6_41 rfl dX6_raise_169 ?_
                refine xt_iconst (v := nI 0) C dX6_raise_172 rfl ?_
                refine xt_ialdN C (by decide) (xt_cl58 _) (by decide) (by decide) (show T1.2.1 58 0 = nI (xt_gh c r sd t) from by rw [(m4 0 (by omega)).2, xt_lo_0]) dX6_raise_173 ?_
                refine xt_icmp_geN (tgt := 234) C dX6_raise_174 (by decide) (by omega) (by omega) (fun c174 => ?_) (fun c174 => ?_)
                · refine xt_iload_n C dX6_raise_234 rfl ?_
                  exact xt_iret C dX6_raise_235 ⟨by decide, by decide⟩ ⟨rfl, T1, g, hfr, rfl, by rw [show y = (xt_gh c r sd t) by omega] at hg; exact hg⟩
                · refine xt_iconst (v := nI 0) C dX6_raise_177 rfl ?_
                  refine xt_istore (lo' := [_, _, _, _, _, _, _]) C dX6_raise_178 (Nat.le_of_ble_eq_true rfl) rfl rfl ?_
                  have in2b : ∀ (d2 x : Nat) (g : Nat → Int32), x ≤ (xt_gw c sd t) → (xt_fl9 5 g (xt_it (fun x f => upd f (((xt_gt c sd t) + y) * c + ((xt_gl c sd t) + x)) (f (((xt_gt c sd t) + y) * c + ((xt_gl c sd t) + x)) + by9)) x (xt_it (fun y f => xt_it (fun x f => upd f (((xt_gt c sd t) + y) * c + ((xt_gl c sd t) + x)) (f (((xt_gt c sd t) + y) * c + ((xt_gl c sd t) + x)) + by9)) (xt_gw c sd t) f) y v)) (S.2.1 50)) → (xt_gw c sd t) + 1 ≤ x + d2 → xt_X E cx (xt_ZM E cx 0 0 (xt_Ep (some (.int (xt_sum2 (fun p => v p + by9) c (xt_gl c sd t) (xt_gt c sd t) (xt_gw c sd t) (xt_gh c r sd t)))) (fun S9 => ∃ T g, xt_mfr (xt_sN S 49 0 (nI 0)) T ∧ S9 = xt_sA (xt_chg T kp) 50 g ∧ xt_fl9 5 g (xt_add2 c (xt_gl c sd t) (xt_gt c sd t) (xt_gw c sd t) (xt_gh c r sd t) by9 v) (S.2.1 50)))) 0 0 180 [some (.ref (E.1 49)), some (.int (nI t)), some (.int by9), some (.int (xt_sum2 (fun p => v p + by9) c (xt_gl c sd t) (xt_gt c sd t) (xt_gw c sd t) (xt_gh c r sd t))), some (.int (nI y)), some (.int (nI x)), none] [] (xt_sA (xt_chg T1 kp) 50 g) := by
                    intro d2
                    induction d2 with
                    | zero => intro x g h0x hg h1x; exact absurd h1x (by omega)
                    | succ d2 ih2 =>
                      intro x g h0x hg h1x
                      have hMg : xt_Mp (xt_sA (xt_chg T1 kp) 50 g) c r sd lv bo := xt_fl9_M (by decide) hg hM9
                      refine xt_iload C dX6_raise_180 rfl ?_
                      refine xt_aload_n C dX6_raise_182 rfl ?_
                      refine xt_get (f := 19) C xt_u6 rfl (by decide) (xt_cl49 _ _) (by decide) lkX6_38 rfl dX6_raise_183 ?_
                      refine xt_iconst (v := nI 0) C dX6_raise_186 rfl ?_
                      refine xt_ialdN C (by decide) (xt_cl57 _) (by decide) (by decide) (show T1.2.1 57 0 = nI (xt_gw c sd t) from by rw [(m4 0 (by omega)).1, xt_lo_0]) dX6_raise_187 ?_
                      refine xt_icmp_geN (tgt := 228) C dX6_raise_188 (by decide) (by omega) (by omega) (fun c188 => ?_) (fun c188 => ?_)
                      · refine xt_iincN (z := 1) (lo' := [_, _, _, _, _, _, _]) C dX6_raise_228 rfl rfl rfl ?_
                        refine xt_goto (tgt := 166) C dX6_raise_231 (by decide) ?_
                        have hx9 : x = (xt_gw c sd t) := by omega
                        subst hx9
                        exact xt_fg (by repeat' constructor) (ih1 (y + 1) g (by omega) hg (by omega))
                      · have hix := (xt_ix (c := c) (r := r) (x := (xt_gl c sd t) + x) (y := (xt_gt c sd t) + y) (by omega) (by omega) b2 b4).1
                        refine xt_aload_n C dX6_raise_191 rfl ?_
                        refine xt_get (f := 1) C xt_u6 rfl (by decide) (xt_cl49 _ _) (by decide) lkX6_9 rfl dX6_raise_192 ?_
                        refine xt_iconst (v := nI 5) C dX6_raise_195 rfl ?_
                        refine xt_aload_n C dX6_raise_196 rfl ?_
                        refine xt_cV C mv_X6_columns lkX6_77 (ct_mcol hMg) rfl (by decide) (xt_cl49 _ _) rfl (by decide) rfl (Nat.le_of_ble_eq_true rfl) dX6_raise_197 ?_
                        refine xt_aload_n C dX6_raise_200 rfl ?_
                        refine xt_get (f := 17) C xt_u6 rfl (by decide) (xt_cl49 _ _) (by decide) lkX6_100 (xt_vI (by exact m2)) dX6_raise_201 ?_
                        refine xt_iload C dX6_raise_204 rfl ?_
                        refine xt_iaddN C dX6_raise_206 ?_
                        refine xt_imulN C dX6_raise_207 ?_
                        refine xt_iaddN C dX6_raise_208 ?_
                        refine xt_aload_n C dX6_raise_209 rfl ?_
                        refine xt_get (f := 16) C xt_u6 rfl (by decide) (xt_cl49 _ _) (by decide) lkX6_97 (xt_vI (by exact m1)) dX6_raise_210 ?_
                        refine xt_iaddN C dX6_raise_213 ?_
                        refine xt_iload C dX6_raise_214 rfl ?_
                        refine xt_iaddN C dX6_raise_216 ?_
                        rw [show 5 + c * ((xt_gt c sd t) + y) + (xt_gl c sd t) + x = 5 + (((xt_gt c sd t) + y) * c + ((xt_gl c sd t) + x)) by rw [Nat.mul_comm ((xt_gt c sd t) + y) c]; omega]
                        refine xt_dup2 C dX6_raise_217 rfl rfl ?_
                        refine xt_ialdN C (by decide) (xt_cl50 _) (by omega) (by decide) (show (xt_sA (xt_chg T1 kp) 50 g).2.1 50 (5 + (((xt_gt c sd t) + y) * c + ((xt_gl c sd t) + x))) = (xt_it (fun x f => upd f (((xt_gt c sd t) + y) * c + ((xt_gl c sd t) + x)) (f (((xt_gt c sd t) + y) * c + ((xt_gl c sd t) + x)) + by9)) x (xt_it (fun y f => xt_it (fun x f => upd f (((xt_gt c sd t) + y) * c + ((xt_gl c sd t) + x)) (f (((xt_gt c sd t) + y) * c + ((xt_gl c sd t) + x)) + by9)) (xt_gw c sd t) f) y v)) (((xt_gt c sd t) + y) * c + ((xt_gl c sd t) + x)) from by rw [xt_sA_s]; exact hg.1 _ hix) dX6_raise_218 ?_
                        refine xt_iload_n C dX6_raise_219 rfl ?_
                        refine xt_iadd C dX6_raise_220 ?_
                        refine xt_iastN C (by decide) (xt_cl50 _) (by omega) (by decide) dX6_raise_221 ?_
                        rw [xt_sA_s, xt_sA_sA]
                        refine xt_iincN (z := 1) (lo' := [_, _, _, _, _, _, _]) C dX6_raise_222 rfl rfl rfl ?_
                        refine xt_goto (tgt := 180) C dX6_raise_225 (by decide) ?_
                        have h9 := ih2 (x + 1) _ (by omega) (xt_fl9_u (z := (xt_it (fun x f => upd f (((xt_gt c sd t) + y) * c + ((xt_gl c sd t) + x)) (f (((xt_gt c sd t) + y) * c + ((xt_gl c sd t) + x)) + by9)) x (xt_it (fun y f => xt_it (fun x f => upd f (((xt_gt c sd t) + y) * c + ((xt_gl c sd t) + x)) (f (((xt_gt c sd t) + y) * c + ((xt_gl c sd t) + x)) + by9)) (xt_gw c sd t) f) y v)) (((xt_gt c sd t) + y) * c + ((xt_gl c sd t) + x)) + by9) hg hix) (by omega)
                        exact xt_fg (by repeat' constructor) h9
                  exact xt_fg (by repeat' constructor) (in2b ((xt_gw c sd t) + 1) 0 g (by omega) hg (by omega))
            have e50 : (xt_chg T1 kp).2.1 50 = S.2.1 50 := (xt_sA_n (by decide)).trans (hfr.2.1 50 (by omega))
            have h9 := out1b ((xt_gh c r sd t) + 1) 0 ((xt_chg T1 kp).2.1 50) (by omega) (by rw [e50]; exact ⟨hvv, fun _ _ => rfl⟩) (by omega)
            rw [xt_sA_self] at h9
            exact xt_fg (by repeat' constructor) h9
          · refine xt_iconst (v := nI 0) C dX6_raise_59 rfl ?_
            refine xt_istore (lo' := [_, _, _, _, _, _, _]) C dX6_raise_60 (Nat.le_of_ble_eq_true rfl) rfl rfl ?_
            have in2 : ∀ (d2 x : Nat), x ≤ (xt_gw c sd t) →  (xt_gw c sd t) + 1 ≤ x + d2 → xt_X E cx (xt_ZM E cx 0 0 (xt_Ep (some (.int (xt_sum2 (fun p => v p + by9) c (xt_gl c sd t) (xt_gt c sd t) (xt_gw c sd t) (xt_gh c r sd t)))) (fun S9 => ∃ T g, xt_mfr (xt_sN S 49 0 (nI 0)) T ∧ S9 = xt_sA (xt_chg T kp) 50 g ∧ xt_fl9 5 g (xt_add2 c (xt_gl c sd t) (xt_gt c sd t) (xt_gw c sd t) (xt_gh c r sd t) by9 v) (S.2.1 50)))) 0 0 62 [some (.ref (E.1 49)), some (.int (nI t)), some (.int by9), some (.int (xt_it (fun x s => s + (v (((xt_gt c sd t) + y) * c + ((xt_gl c sd t) + x)) + by9)) x (xt_it (fun y s => xt_it (fun x s => s + (v (((xt_gt c sd t) + y) * c + ((xt_gl c sd t) + x)) + by9)) (xt_gw c sd t) s) y 0))), some (.int (nI y)), some (.int (nI x)), none] [] T1 := by
              intro d2
              induction d2 with
              | zero => intro x  h0x  h1x; exact absurd h1x (by omega)
              | succ d2 ih2 =>
                intro x  h0x  h1x
                refine xt_iload C dX6_raise_62 rfl ?_
                refine xt_aload_n C dX6_raise_64 rfl ?_
                refine xt_get (f := 19) C xt_u6 rfl (by decide) (xt_cl49 _ _) (by decide) lkX6_38 rfl dX6_raise_65 ?_
                refine xt_iconst (v := nI 0) C dX6_raise_68 rfl ?_
                refine xt_ialdN C (by decide) (xt_cl57 _) (by decide) (by decide) (show T1.2.1 57 0 = nI (xt_gw c sd t) from by rw [(m4 0 (by omega)).1, xt_lo_0]) dX6_raise_69 ?_
                refine xt_icmp_geN (tgt := 153) C dX6_raise_70 (by decide) (by omega) (by omega) (fun c70 => ?_) (fun c70 => ?_)
                · refine xt_iincN (z := 1) (lo' := [_, _, _, _, _, _, _]) C dX6_raise_153 rfl rfl rfl ?_
                  refine xt_goto (tgt := 48) C dX6_raise_156 (by decide) ?_
                  have hx9 : x = (xt_gw c sd t) := by omega
                  subst hx9
                  exact xt_fg (by repeat' constructor) (ih1 (y + 1) (by omega)  (by omega))
                · have hix := (xt_ix (c := c) (r := r) (x := (xt_gl c sd t) + x) (y := (xt_gt c sd t) + y) (by omega) (by omega) b2 b4).1
                  refine xt_aload_n C dX6_raise_73 rfl ?_
                  refine xt_aload_n C dX6_raise_74 rfl ?_
                  refine xt_get (f := 16) C xt_u6 rfl (by decide) (xt_cl49 _ _) (by decide) lkX6_97 (xt_vI (by exact m1)) dX6_raise_75 ?_
                  refine xt_iload C dX6_raise_78 rfl ?_
                  refine xt_iaddN C dX6_raise_80 ?_
                  refine xt_aload_n C dX6_raise_81 rfl ?_
                  refine xt_get (f := 17) C xt_u6 rfl (by decide) (xt_cl49 _ _) (by decide) lkX6_100 (xt_vI (by exact m2)) dX6_raise_82 ?_
                  refine xt_iload C dX6_raise_85 rfl ?_
                  refine xt_iaddN C dX6_raise_87 ?_
                  refine xt_cV C mv_X6_value lkX6_119 (ct_mvalue (by exact xt_mfr_Mp hfr hM9) hix) rfl (by decide) (xt_cl49 _ _) rfl (by decide) rfl (Nat.le_of_ble_eq_true rfl) dX6_raise_88 ?_
                  rw [show xt_mV T1 (((xt_gt c sd t) + y) * c + ((xt_gl c sd t) + x)) = v (((xt_gt c sd t) + y) * c + ((xt_gl c sd t) + x)) from (congrFun (xt_mfr_v hfr).1 _).trans (hvv _ hix)]
                  refine xt_iload_n C dX6_raise_91 rfl ?_
                  refine xt_iadd C dX6_raise_92 ?_
                  refine xt_istore (lo' := [_, _, _, _, _, _, _]) C dX6_raise_93 (Nat.le_of_ble_eq_true rfl) rfl rfl ?_
                  refine xt_iload C dX6_raise_95 rfl ?_
                  refine xt_iconst (v := nI 0) C dX6_raise_97 rfl ?_
                  refine xt_sipush (v := nI 255) C dX6_raise_98 (by decide) ?_
                  refine xt_cS C ms_X6_in lkX6_81 ct_in rfl (by decide) rfl (Nat.le_of_ble_eq_true rfl) dX6_raise_101 ?_
                  refine xt_if_neB (tgt := 142) C dX6_raise_104 (by decide) (fun c104 => ?_) (fun c104 => ?_)
                  · refine xt_iload_n C dX6_raise_142 rfl ?_
                    refine xt_iload C dX6_raise_143 rfl ?_
                    refine xt_iadd C dX6_raise_145 ?_
                    refine xt_istore_n (lo' := [_, _, _, _, _, _, _]) C dX6_raise_146 (Nat.le_of_ble_eq_true rfl) rfl rfl ?_
                    refine xt_iincN (z := 1) (lo' := [_, _, _, _, _, _, _]) C dX6_raise_147 rfl rfl rfl ?_
                    refine xt_goto (tgt := 62) C dX6_raise_150 (by decide) ?_
                    have h9 := ih2 (x + 1) (by omega)  (by omega)
                    exact xt_fg (by repeat' constructor) h9
                  · exact absurd (hov y x (by omega) (by omega)) c104
            exact xt_fg (by repeat' constructor) (in2 ((xt_gw c sd t) + 1) 0 (by omega)  (by omega))
      exact xt_fg (by repeat' constructor) (out1 ((xt_gh c r sd t) + 1) 0 (by omega) (by omega))
    · exact absurd hby c29
  · exact absurd ⟨t, ht, rfl⟩ c10
set_option maxRecDepth 20000 in
set_option maxHeartbeats 2000000 in
theorem ct_mraise_b3 {c r sd lv bo : Nat} (hM : xt_Mp S c r sd lv bo) {t : Nat} (ht : t < xt_nt c r sd) {v : Nat → Int32} (hvv : ∀ j, j < 256 → xt_mV S j = v j) {by9 : Int32} (hby : -255 ≤ by9 ∧ by9 ≤ nI 255) {y0 x0 : Nat} (hy0 : y0 < (xt_gh c r sd t)) (hx0 : x0 < (xt_gw c sd t)) (hno : ¬ xt_okv (v (((xt_gt c sd t) + y0) * c + ((xt_gl c sd t) + x0)) + by9)) (hfi : ∀ y x, y < (xt_gh c r sd t) → x < (xt_gw c sd t) → (y < y0 ∨ (y = y0 ∧ x < x0)) → xt_okv (v (((xt_gt c sd t) + y) * c + ((xt_gl c sd t) + x)) + by9)) : xt_Ct E l yX6_raise cX6_raise 7 (some Jvm.ClassFile.FieldType.int) 4 81 0 0 [.ref (E.1 49), .int (nI t), .int by9] S (xt_Ep (some (.int (nI 0))) (fun S9 => ∃ T, xt_mfr (xt_sN S 49 0 (nI 0)) T ∧ S9 = xt_sN (xt_sN (xt_sN T 49 11 (if (v (((xt_gt c sd t) + y0) * c + ((xt_gl c sd t) + x0)) + by9) < 0 then nI 4 else nI 5)) 49 12 (nI (((xt_gt c sd t) + y0) * c + ((xt_gl c sd t) + x0)))) 49 0 (nI 3))) := by
  refine xt_body (by decide +kernel) (xt_all rfl) (Nat.le_of_ble_eq_true rfl) (fun cx C hl9 => ?_)
  show xt_X E cx _ 0 0 0 [some (.ref (E.1 49)), some (.int (nI t)), some (.int by9), none, none, none, none] [] S
  have hM9 := hM
  obtain ⟨hc, hr, hs, hv, hb, b1, b2, b3, b4, b5, b6, b7⟩ := hM
  have hn := xt_nt_b ⟨b1, b2⟩ ⟨b3, b4⟩ b5
  have hT := xt_tile_b ⟨b1, b2⟩ ⟨b3, b4⟩ b5 ht
  have hdl : (xt_tD c r sd lv t) ≤ 3 := xt_dep_le.2
  refine xt_aload_n C dX6_raise_0 rfl ?_
  refine xt_iconst (v := nI 0) C dX6_raise_1 rfl ?_
  refine xt_put (f := 0) C xt_u6 rfl (by decide) (xt_cl49 _ _) (by decide) tyX6 tyX6_ok nmX6 lkX6_74 rfl (tyX6_ok 0 (by decide)) rfl rfl (Nat.le_of_ble_eq_true rfl) rfl dX6_raise_2 ?_
  refine xt_aload_n C dX6_raise_5 rfl ?_
  refine xt_iload_n C dX6_raise_6 rfl ?_
  refine xt_cV C mv_X6_isTile lkX6_165 (ct_isTile (by exact hM9)) rfl (by decide) (xt_cl49 _ _) rfl (by decide) rfl (Nat.le_of_ble_eq_true rfl) dX6_raise_7 ?_
  refine xt_if_neB (tgt := 19) C dX6_raise_10 (by decide) (fun c10 => ?_) (fun c10 => ?_)
  · refine xt_iload_n C dX6_raise_19 rfl ?_
    refine xt_sipush (v := -255) C dX6_raise_20 (by decide) ?_
    refine xt_sipush (v := nI 255) C dX6_raise_23 (by decide) ?_
    refine xt_cS C ms_X6_in lkX6_81 ct_in rfl (by decide) rfl (Nat.le_of_ble_eq_true rfl) dX6_raise_26 ?_
    refine xt_if_neB (tgt := 38) C dX6_raise_29 (by decide) (fun c29 => ?_) (fun c29 => ?_)
    · refine xt_aload_n C dX6_raise_38 rfl ?_
      refine xt_iload_n C dX6_raise_39 rfl ?_
      refine xt_cVpn C mv_X6_takes lkX6_112 (ct_takes (by exact hM9) ht) rfl (by decide) (xt_cl49 _ _) rfl (by decide) rfl (Nat.le_of_ble_eq_true rfl) dX6_raise_40 (fun S9 hq9 => ?_)
      obtain ⟨hfr, hMt⟩ := hq9
      rename xt_St => T1
      obtain ⟨m1, m2, m3, m4, g1, g2, g3, g4, g5, g6, g7⟩ := id hMt
      refine xt_iconst (v := nI 0) C dX6_raise_43 rfl ?_
      refine xt_istore_n (lo' := [_, _, _, _, _, _, _]) C dX6_raise_44 (Nat.le_of_ble_eq_true rfl) rfl rfl ?_
      refine xt_iconst (v := nI 0) C dX6_raise_45 rfl ?_
      refine xt_istore (lo' := [_, _, _, _, _, _, _]) C dX6_raise_46 (Nat.le_of_ble_eq_true rfl) rfl rfl ?_
      have out1 : ∀ (d1 y : Nat), y ≤ y0 →  y0 + 1 ≤ y + d1 → xt_X E cx (xt_ZM E cx 0 0 (xt_Ep (some (.int (nI 0))) (fun S9 => ∃ T, xt_mfr (xt_sN S 49 0 (nI 0)) T ∧ S9 = xt_sN (xt_sN (xt_sN T 49 11 (if (v (((xt_gt c sd t) + y0) * c + ((xt_gl c sd t) + x0)) + by9) < 0 then nI 4 else nI 5)) 49 12 (nI (((xt_gt c sd t) + y0) * c + ((xt_gl c sd t) + x0)))) 49 0 (nI 3)))) 0 0 48 [some (.ref (E.1 49)), some (.int (nI t)), some (.int by9), some (.int (xt_it (fun y s => xt_it (fun x s => s + (v (((xt_gt c sd t) + y) * c + ((xt_gl c sd t) + x)) + by9)) (xt_gw c sd t) s) y 0)), some (.int (nI y)), none, none] [] T1 := by
        intro d1
        induction d1 with
        | zero => intro y  h0y  h1y; exact absurd h1y (by omega)
        | succ d1 ih1 =>
          intro y  h0y  h1y
          refine xt_iload C dX6_raise_48 rfl ?_
          refine xt_aload_n C dX6_raise_50 rfl ?_
          refine xt_get (f := 20) C xt_u6 rfl (by decide) (xt_cl49 _ _) (by decide) lkX6_41 rfl dX6_raise_51 ?_
          refine xt_iconst (v := nI 0) C dX6_raise_54 rfl ?_
          refine xt_ialdN C (by decide) (xt_cl58 _) (by decide) (by decide) (show T1.2.1 58 0 = nI (xt_gh c r sd t) from by rw [(m4 0 (by omega)).2, xt_lo_0]) dX6_raise_55 ?_
          refine xt_icmp_geN (tgt := 159) C dX6_raise_56 (by decide) (by omega) (by omega) (fun c56 => ?_) (fun c56 => ?_)
          · exact absurd c56 (by omega)
          · refine xt_iconst (v := nI 0) C dX6_raise_59 rfl ?_
            refine xt_istore (lo' := [_, _, _, _, _, _, _]) C dX6_raise_60 (Nat.le_of_ble_eq_true rfl) rfl rfl ?_
            have in2 : ∀ (d2 x : Nat), x ≤ (xt_gw c sd t) → (y < y0 ∨ (y = y0 ∧ x ≤ x0)) → (xt_gw c sd t) + 1 ≤ x + d2 → xt_X E cx (xt_ZM E cx 0 0 (xt_Ep (some (.int (nI 0))) (fun S9 => ∃ T, xt_mfr (xt_sN S 49 0 (nI 0)) T ∧ S9 = xt_sN (xt_sN (xt_sN T 49 11 (if (v (((xt_gt c sd t) + y0) * c + ((xt_gl c sd t) + x0)) + by9) < 0 then nI 4 else nI 5)) 49 12 (nI (((xt_gt c sd t) + y0) * c + ((xt_gl c sd t) + x0)))) 49 0 (nI 3)))) 0 0 62 [some (.ref (E.1 49)), some (.int (nI t)), some (.int by9), some (.int (xt_it (fun x s => s + (v (((xt_gt c sd t) + y) * c + ((xt_gl c sd t) + x)) + by9)) x (xt_it (fun y s => xt_it (fun x s => s + (v (((xt_gt c sd t) + y) * c + ((xt_gl c sd t) + x)) + by9)) (xt_gw c sd t) s) y 0))), some (.int (nI y)), some (.int (nI x)), none] [] T1 := by
              intro d2
              induction d2 with
              | zero => intro x  h0x hle h1x; exact absurd h1x (by omega)
              | succ d2 ih2 =>
                intro x  h0x hle h1x
                refine xt_iload C dX6_raise_62 rfl ?_
                refine xt_aload_n C dX6_raise_64 rfl ?_
                refine xt_get (f := 19) C xt_u6 rfl (by decide) (xt_cl49 _ _) (by decide) lkX6_38 rfl dX6_raise_65 ?_
                refine xt_iconst (v := nI 0) C dX6_raise_68 rfl ?_
                refine xt_ialdN C (by decide) (xt_cl57 _) (by decide) (by decide) (show T1.2.1 57 0 = nI (xt_gw c sd t) from by rw [(m4 0 (by omega)).1, xt_lo_0]) dX6_raise_69 ?_
                refine xt_icmp_geN (tgt := 153) C dX6_raise_70 (by decide) (by omega) (by omega) (fun c70 => ?_) (fun c70 => ?_)
                · refine xt_iincN (z := 1) (lo' := [_, _, _, _, _, _, _]) C dX6_raise_153 rfl rfl rfl ?_
                  refine xt_goto (tgt := 48) C dX6_raise_156 (by decide) ?_
                  have hx9 : x = (xt_gw c sd t) := by omega
                  subst hx9
                  exact xt_fg (by repeat' constructor) (ih1 (y + 1) (by omega) (by omega))
                · have hix := (xt_ix (c := c) (r := r) (x := (xt_gl c sd t) + x) (y := (xt_gt c sd t) + y) (by omega) (by omega) b2 b4).1
                  refine xt_aload_n C dX6_raise_73 rfl ?_
                  refine xt_aload_n C dX6_raise_74 rfl ?_
                  refine xt_get (f := 16) C xt_u6 rfl (by decide) (xt_cl49 _ _) (by decide) lkX6_97 (xt_vI (by exact m1)) dX6_raise_75 ?_
                  refine xt_iload C dX6_raise_78 rfl ?_
                  refine xt_iaddN C dX6_raise_80 ?_
                  refine xt_aload_n C dX6_raise_81 rfl ?_
                  refine xt_get (f := 17) C xt_u6 rfl (by decide) (xt_cl49 _ _) (by decide) lkX6_100 (xt_vI (by exact m2)) dX6_raise_82 ?_
                  refine xt_iload C dX6_raise_85 rfl ?_
                  refine xt_iaddN C dX6_raise_87 ?_
                  refine xt_cV C mv_X6_value lkX6_119 (ct_mvalue (by exact xt_mfr_Mp hfr hM9) hix) rfl (by decide) (xt_cl49 _ _) rfl (by decide) rfl (Nat.le_of_ble_eq_true rfl) dX6_raise_88 ?_
                  rw [show xt_mV T1 (((xt_gt c sd t) + y) * c + ((xt_gl c sd t) + x)) = v (((xt_gt c sd t) + y) * c + ((xt_gl c sd t) + x)) from (congrFun (xt_mfr_v hfr).1 _).trans (hvv _ hix)]
                  refine xt_iload_n C dX6_raise_91 rfl ?_
                  refine xt_iadd C dX6_raise_92 ?_
                  refine xt_istore (lo' := [_, _, _, _, _, _, _]) C dX6_raise_93 (Nat.le_of_ble_eq_true rfl) rfl rfl ?_
                  refine xt_iload C dX6_raise_95 rfl ?_
                  refine xt_iconst (v := nI 0) C dX6_raise_97 rfl ?_
                  refine xt_sipush (v := nI 255) C dX6_raise_98 (by decide) ?_
                  refine xt_cS C ms_X6_in lkX6_81 ct_in rfl (by decide) rfl (Nat.le_of_ble_eq_true rfl) dX6_raise_101 ?_
                  refine xt_if_neB (tgt := 142) C dX6_raise_104 (by decide) (fun c104 => ?_) (fun c104 => ?_)
                  · have hne : ¬ (y = y0 ∧ x = x0) := fun z => hno (by rw [z.1, z.2] at c104; exact c104)
                    refine xt_iload_n C dX6_raise_142 rfl ?_
                    refine xt_iload C dX6_raise_143 rfl ?_
                    refine xt_iadd C dX6_raise_145 ?_
                    refine xt_istore_n (lo' := [_, _, _, _, _, _, _]) C dX6_raise_146 (Nat.le_of_ble_eq_true rfl) rfl rfl ?_
                    refine xt_iincN (z := 1) (lo' := [_, _, _, _, _, _, _]) C dX6_raise_147 rfl rfl rfl ?_
                    refine xt_goto (tgt := 62) C dX6_raise_150 (by decide) ?_
                    have h9 := ih2 (x + 1) (by omega) (by omega) (by omega)
                    exact xt_fg (by repeat' constructor) h9
                  · obtain ⟨rfl, rfl⟩ : y = y0 ∧ x = x0 := by
                      by_cases z : y = y0 ∧ x = x0
                      · exact z
                      · exact absurd (hfi y x (by omega) (by omega) (by omega)) c104
                    refine xt_aload_n C dX6_raise_107 rfl ?_
                    refine xt_iload C dX6_raise_108 rfl ?_
                    refine xt_if_ge (tgt := 117) C dX6_raise_110 (by decide) (fun c110 => ?_) (fun c110 => ?_)
                    · refine xt_iconst (v := nI 5) C dX6_raise_117 rfl ?_
                      refine xt_aload_n C dX6_raise_118 rfl ?_
                      refine xt_cV C mv_X6_columns lkX6_77 (ct_mcol (by exact xt_mfr_Mp hfr hM9)) rfl (by decide) (xt_cl49 _ _) rfl (by decide) rfl (Nat.le_of_ble_eq_true rfl) dX6_raise_119 ?_
                      refine xt_aload_n C dX6_raise_122 rfl ?_
                      refine xt_get (f := 17) C xt_u6 rfl (by decide) (xt_cl49 _ _) (by decide) lkX6_100 (xt_vI (by exact m2)) dX6_raise_123 ?_
                      refine xt_iload C dX6_raise_126 rfl ?_
                      refine xt_iaddN C dX6_raise_128 ?_
                      refine xt_imulN C dX6_raise_129 ?_
                      refine xt_aload_n C dX6_raise_130 rfl ?_
                      refine xt_get (f := 16) C xt_u6 rfl (by decide) (xt_cl49 _ _) (by decide) lkX6_97 (xt_vI (by exact m1)) dX6_raise_131 ?_
                      refine xt_iaddN C dX6_raise_134 ?_
                      refine xt_iload C dX6_raise_135 rfl ?_
                      refine xt_iaddN C dX6_raise_137 ?_
                      rw [show c * ((xt_gt c sd t) + y) + (xt_gl c sd t) + x = (((xt_gt c sd t) + y) * c + ((xt_gl c sd t) + x)) by rw [Nat.mul_comm ((xt_gt c sd t) + y) c, Nat.add_assoc]]
                      refine xt_cV C mv_X6_refuses lkX6_178 (ct_mrefuses (by decide)) rfl (by decide) (xt_cl49 _ _) rfl (by decide) rfl (Nat.le_of_ble_eq_true rfl) dX6_raise_138 ?_
                      refine xt_iret C dX6_raise_141 ⟨by decide, by decide⟩ ?_
                      first
                      | exact ⟨rfl, T1, hfr, by rw [if_neg (Int32.not_lt.mpr c110)]; rfl⟩
                      | exact ⟨rfl, T1, hfr, by rw [if_pos (Int32.not_le.mp c110)]; rfl⟩
                    · refine xt_iconst (v := nI 4) C dX6_raise_113 rfl ?_
                      refine xt_goto (tgt := 118) C dX6_raise_114 (by decide) ?_
                      refine xt_aload_n C dX6_raise_118 rfl ?_
                      refine xt_cV C mv_X6_columns lkX6_77 (ct_mcol (by exact xt_mfr_Mp hfr hM9)) rfl (by decide) (xt_cl49 _ _) rfl (by decide) rfl (Nat.le_of_ble_eq_true rfl) dX6_raise_119 ?_
                      refine xt_aload_n C dX6_raise_122 rfl ?_
                      refine xt_get (f := 17) C xt_u6 rfl (by decide) (xt_cl49 _ _) (by decide) lkX6_100 (xt_vI (by exact m2)) dX6_raise_123 ?_
                      refine xt_iload C dX6_raise_126 rfl ?_
                      refine xt_iaddN C dX6_raise_128 ?_
                      refine xt_imulN C dX6_raise_129 ?_
                      refine xt_aload_n C dX6_raise_130 rfl ?_
                      refine xt_get (f := 16) C xt_u6 rfl (by decide) (xt_cl49 _ _) (by decide) lkX6_97 (xt_vI (by exact m1)) dX6_raise_131 ?_
                      refine xt_iaddN C dX6_raise_134 ?_
                      refine xt_iload C dX6_raise_135 rfl ?_
                      refine xt_iaddN C dX6_raise_137 ?_
                      rw [show c * ((xt_gt c sd t) + y) + (xt_gl c sd t) + x = (((xt_gt c sd t) + y) * c + ((xt_gl c sd t) + x)) by rw [Nat.mul_comm ((xt_gt c sd t) + y) c, Nat.add_assoc]]
                      refine xt_cV C mv_X6_refuses lkX6_178 (ct_mrefuses (by decide)) rfl (by decide) (xt_cl49 _ _) rfl (by decide) rfl (Nat.le_of_ble_eq_true rfl) dX6_raise_138 ?_
                      refine xt_iret C dX6_raise_141 ⟨by decide, by decide⟩ ?_
                      first
                      | exact ⟨rfl, T1, hfr, by rw [if_neg (Int32.not_lt.mpr c110)]; rfl⟩
                      | exact ⟨rfl, T1, hfr, by rw [if_pos (Int32.not_le.mp c110)]; rfl⟩
            exact xt_fg (by repeat' constructor) (in2 ((xt_gw c sd t) + 1) 0 (by omega) (by omega) (by omega))
      exact xt_fg (by repeat' constructor) (out1 (y0 + 1) 0 (by omega) (by omega))
    · exact absurd hby c29
  · exact absurd ⟨t, ht, rfl⟩ c10
set_option maxRecDepth 20000 in
set_option maxHeartbeats 2000000 in
theorem ct_mraise_b1 {c r sd lv bo : Nat} (hM : xt_Mp S c r sd lv bo) {a b9 : Int32} (hbad : ¬ ∃ j, j < xt_nt c r sd ∧ a = nI j) : xt_Ct E l yX6_raise cX6_raise 7 (some Jvm.ClassFile.FieldType.int) 4 81 0 0 [.ref (E.1 49), .int a, .int b9] S (xt_Ep (some (.int (nI 0))) (xt_mr S 1)) := by
  refine xt_body (by decide +kernel) (xt_all rfl) (Nat.le_of_ble_eq_true rfl) (fun cx C hl9 => ?_)
  show xt_X E cx _ 0 0 0 [some (.ref (E.1 49)), some (.int a), some (.int b9), none, none, none, none] [] S
  have hM9 := hM
  obtain ⟨hc, hr, hs, hv, hb, b1, b2, b3, b4, b5, b6, b7⟩ := hM
  refine xt_aload_n C dX6_raise_0 rfl ?_
  refine xt_iconst (v := nI 0) C dX6_raise_1 rfl ?_
  refine xt_put (f := 0) C xt_u6 rfl (by decide) (xt_cl49 _ _) (by decide) tyX6 tyX6_ok nmX6 lkX6_74 rfl (tyX6_ok 0 (by decide)) rfl rfl (Nat.le_of_ble_eq_true rfl) rfl dX6_raise_2 ?_
  refine xt_aload_n C dX6_raise_5 rfl ?_
  refine xt_iload_n C dX6_raise_6 rfl ?_
  refine xt_cV C mv_X6_isTile lkX6_165 (ct_isTile (by exact hM9)) rfl (by decide) (xt_cl49 _ _) rfl (by decide) rfl (Nat.le_of_ble_eq_true rfl) dX6_raise_7 ?_
  refine xt_if_neB (tgt := 19) C dX6_raise_10 (by decide) (fun c10 => ?_) (fun c10 => ?_)
  · exact absurd c10 hbad
  · refine xt_aload_n C dX6_raise_13 rfl ?_
    refine xt_iconst (v := nI 1) C dX6_raise_14 rfl ?_
    refine xt_cV C mv_X6_raises lkX6_142 ct_mraises rfl (by decide) (xt_cl49 _ _) rfl (by decide) rfl (Nat.le_of_ble_eq_true rfl) dX6_raise_15 ?_
    exact xt_iret C dX6_raise_18 ⟨by decide, by decide⟩ ⟨rfl, xt_mr_x xt_mfr_rf⟩
set_option maxRecDepth 20000 in
set_option maxHeartbeats 2000000 in
theorem ct_mraise_b2 {c r sd lv bo : Nat} (hM : xt_Mp S c r sd lv bo) {a b9 : Int32} (hbad : ∃ j, j < xt_nt c r sd ∧ a = nI j) (hby : ¬ (-255 ≤ b9 ∧ b9 ≤ nI 255)) : xt_Ct E l yX6_raise cX6_raise 7 (some Jvm.ClassFile.FieldType.int) 4 81 0 0 [.ref (E.1 49), .int a, .int b9] S (xt_Ep (some (.int (nI 0))) (xt_mr S 2)) := by
  refine xt_body (by decide +kernel) (xt_all rfl) (Nat.le_of_ble_eq_true rfl) (fun cx C hl9 => ?_)
  show xt_X E cx _ 0 0 0 [some (.ref (E.1 49)), some (.int a), some (.int b9), none, none, none, none] [] S
  have hM9 := hM
  obtain ⟨hc, hr, hs, hv, hb, b1, b2, b3, b4, b5, b6, b7⟩ := hM
  refine xt_aload_n C dX6_raise_0 rfl ?_
  refine xt_iconst (v := nI 0) C dX6_raise_1 rfl ?_
  refine xt_put (f := 0) C xt_u6 rfl (by decide) (xt_cl49 _ _) (by decide) tyX6 tyX6_ok nmX6 lkX6_74 rfl (tyX6_ok 0 (by decide)) rfl rfl (Nat.le_of_ble_eq_true rfl) rfl dX6_raise_2 ?_
  refine xt_aload_n C dX6_raise_5 rfl ?_
  refine xt_iload_n C dX6_raise_6 rfl ?_
  refine xt_cV C mv_X6_isTile lkX6_165 (ct_isTile (by exact hM9)) rfl (by decide) (xt_cl49 _ _) rfl (by decide) rfl (Nat.le_of_ble_eq_true rfl) dX6_raise_7 ?_
  refine xt_if_neB (tgt := 19) C dX6_raise_10 (by decide) (fun c10 => ?_) (fun c10 => ?_)
  · refine xt_iload_n C dX6_raise_19 rfl ?_
    refine xt_sipush (v := -255) C dX6_raise_20 (by decide) ?_
    refine xt_sipush (v := nI 255) C dX6_raise_23 (by decide) ?_
    refine xt_cS C ms_X6_in lkX6_81 ct_in rfl (by decide) rfl (Nat.le_of_ble_eq_true rfl) dX6_raise_26 ?_
    refine xt_if_neB (tgt := 38) C dX6_raise_29 (by decide) (fun c29 => ?_) (fun c29 => ?_)
    · exact absurd c29 hby
    · refine xt_aload_n C dX6_raise_32 rfl ?_
      refine xt_iconst (v := nI 2) C dX6_raise_33 rfl ?_
      refine xt_cV C mv_X6_raises lkX6_142 ct_mraises rfl (by decide) (xt_cl49 _ _) rfl (by decide) rfl (Nat.le_of_ble_eq_true rfl) dX6_raise_34 ?_
      exact xt_iret C dX6_raise_37 ⟨by decide, by decide⟩ ⟨rfl, xt_mr_x xt_mfr_rf⟩
  · exact absurd hbad c10
end XM15
