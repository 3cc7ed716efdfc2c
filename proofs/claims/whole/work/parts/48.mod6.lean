/-! THE MODEL: decodes -/
section XM6
variable {E : xt_Ev} {l : Launch} {S : xt_St}
theorem xt_ML_k {T : xt_St} {c r sd pl t : Nat} {v k : Nat → Int32} (h : xt_ML S c r sd pl t v k) (h1 : T.1 49 = S.1 49) (h2 : T.2.1 57 = S.2.1 57) (h3 : T.2.1 58 = S.2.1 58) (h4 : T.2.1 59 = S.2.1 59) (h5 : T.2.1 60 = S.2.1 60) : xt_ML T c r sd pl t v k := by
  refine ⟨xt_Mt_k h.1 h1 h2 h3, ?_⟩
  rw [h4, h5]
  exact h.2
theorem xt_ML_A {T : xt_St} {c r sd pl t i : Nat} {v k g : Nat → Int32} (hi : 60 < i) (h : xt_ML T c r sd pl t v k) : xt_ML (xt_sA T i g) c r sd pl t v k := xt_ML_k h rfl (xt_sA_n (by omega)) (xt_sA_n (by omega)) (xt_sA_n (by omega)) (xt_sA_n (by omega))
/-- the first amounts of a decoding -/
noncomputable def xt_tF (c r sd pl pb t n : Nat) (v k : Nat → Int32) : Nat → Int32 := fun p => xt_dv (xt_tC c r sd pl t v p) (xt_mis (xt_tM c r sd pl t k p) pb n)
theorem xt_tJ_F {c r sd pl pb t n p : Nat} {v k : Nat → Int32} : xt_tJ c r sd pl pb t n v k p = xt_cl (xt_jn 0 (xt_gw c sd t) (xt_gh c r sd t) (xt_tD c r sd pl t) (xt_tF c r sd pl pb t n v k) p) := rfl
theorem xt_tM_le {c r sd pl t p : Nat} {k : Nat → Int32} : xt_tM c r sd pl t k p ≤ 1 := xt_n_le _
set_option maxRecDepth 20000 in
set_option maxHeartbeats 2000000 in
theorem ct_decodes {c r sd lv bo : Nat} (hM : xt_Mp S c r sd lv bo) {t : Nat} (ht : t < xt_nt c r sd) {v k : Nat → Int32} (hL : xt_ML S c r sd lv t v k) (hA : ∀ y x, y < (xt_gh c r sd t) → x < (xt_gw c sd t) → ∃ a, a < 512 ∧ xt_abs (xt_tC c r sd lv t v (8 * y + x)) = nI a) {n : Nat} (hn9 : n ≤ 9) : xt_Ct E l yX6_decodes cX6_decodes 7 none 2 43 0 0 [.ref (E.1 49), .int (nI n)] S (xt_Ep none (fun S9 => xt_mfr S S9 ∧ xt_ML S9 c r sd lv t v k ∧ ∀ y x, y < (xt_gh c r sd t) → x < (xt_gw c sd t) → S9.2.1 61 (8 * y + x) = xt_tJ c r sd lv bo t n v k (8 * y + x))) := by
  refine xt_body (by decide +kernel) (xt_all rfl) (Nat.le_of_ble_eq_true rfl) (fun cx C hl9 => ?_)
  show xt_X E cx _ 0 0 0 [some (.ref (E.1 49)), some (.int (nI n)), none, none, none, none, none] [] S
  have hM9 := hM
  obtain ⟨hc, hr, hs, hv, hb, b1, b2, b3, b4, b5, b6, b7⟩ := hM
  have hn := xt_nt_b ⟨b1, b2⟩ ⟨b3, b4⟩ b5
  have hT := xt_tile_b ⟨b1, b2⟩ ⟨b3, b4⟩ b5 ht
  have hdl : (xt_tD c r sd lv t) ≤ 3 := xt_dep_le.2
  have loopJ0 : ∀ (f0 : Nat → Int32), xt_ag (xt_gw c sd t) (xt_gh c r sd t) f0 (xt_tF c r sd lv bo t n v k) → ∀ (T : xt_St), (xt_mfr S T) → (xt_ML T c r sd lv t v k) → T.2.1 61 = f0 → xt_X E cx (xt_ZM E cx 0 0 (xt_Ep none (fun S9 => xt_mfr S S9 ∧ xt_ML S9 c r sd lv t v k ∧ ∀ y x, y < (xt_gh c r sd t) → x < (xt_gw c sd t) → S9.2.1 61 (8 * y + x) = xt_tJ c r sd lv bo t n v k (8 * y + x)))) 0 0 127 [some (.ref (E.1 49)), some (.int (nI n)), some (.int (xt_pm (xt_tD c r sd lv t))), none, none, none, none] [] T := by
    intro f0 hF0
    have loopK : ∀ (d1 y : Nat) (T : xt_St), y ≤ (xt_gh c r sd t) → (xt_mfr S T) → (xt_ML T c r sd lv t v k) → (xt_gd (xt_gw c sd t) (xt_gh c r sd t) (T.2.1 61) (fun p => xt_cl ((xt_jn 0 (xt_gw c sd t) (xt_gh c r sd t) (xt_tD c r sd lv t) f0) p)) (xt_jn 0 (xt_gw c sd t) (xt_gh c r sd t) (xt_tD c r sd lv t) f0) y 0) → (xt_gh c r sd t) + 1 ≤ y + d1 → xt_X E cx (xt_ZM E cx 0 0 (xt_Ep none (fun S9 => xt_mfr S S9 ∧ xt_ML S9 c r sd lv t v k ∧ ∀ y x, y < (xt_gh c r sd t) → x < (xt_gw c sd t) → S9.2.1 61 (8 * y + x) = xt_tJ c r sd lv bo t n v k (8 * y + x)))) 0 0 210 [some (.ref (E.1 49)), some (.int (nI n)), some (.int (nI y)), none, none, none, none] [] T := by
      intro d1
      induction d1 with
      | zero => intro y T h0y hfr hML hg h1y; exact absurd h1y (by omega)
      | succ d1 ih1 =>
        intro y T h0y hfr hML hg h1y
        have hMt := hML.1
        obtain ⟨m1, m2, m3, m4, g1, g2, g3, g4, g5, g6, g7⟩ := id hMt
        refine xt_iload_n C dX6_decodes_210 rfl ?_
        refine xt_aload_n C dX6_decodes_211 rfl ?_
        refine xt_get (f := 20) C xt_u6 rfl (by decide) (xt_cl49 _ _) (by decide) lkX6_41 rfl dX6_decodes_212 ?_
        refine xt_iconst (v := nI 0) C dX6_decodes_215 rfl ?_
        refine xt_ialdN C (by decide) (xt_cl58 _) (by decide) (by decide) (show T.2.1 58 0 = nI (xt_gh c r sd t) from by rw [(m4 0 (by omega)).2, xt_lo_0]) dX6_decodes_216 ?_
        refine xt_icmp_geN (tgt := 276) C dX6_decodes_217 (by decide) (by omega) (by omega) (fun c217 => ?_) (fun c217 => ?_)
        · exact xt_vret C dX6_decodes_276 ⟨by decide, by decide⟩ ⟨rfl, hfr, hML, fun y9 x9 h1 h2 => by rw [xt_gd_e (by omega) hg h1 h2, xt_tJ_F, xt_jn_ag g2 (by omega) hF0 (8 * y9 + x9) (by omega) (by omega)]⟩
        · refine xt_iconst (v := nI 0) C dX6_decodes_220 rfl ?_
          refine xt_istore_n (lo' := [_, _, _, _, _, _, _]) C dX6_decodes_221 (Nat.le_of_ble_eq_true rfl) rfl rfl ?_
          have in2 : ∀ (d2 x : Nat) (T : xt_St), x ≤ (xt_gw c sd t) → (xt_mfr S T) → (xt_ML T c r sd lv t v k) → (xt_gd (xt_gw c sd t) (xt_gh c r sd t) (T.2.1 61) (fun p => xt_cl ((xt_jn 0 (xt_gw c sd t) (xt_gh c r sd t) (xt_tD c r sd lv t) f0) p)) (xt_jn 0 (xt_gw c sd t) (xt_gh c r sd t) (xt_tD c r sd lv t) f0) y x) → (xt_gw c sd t) + 1 ≤ x + d2 → xt_X E cx (xt_ZM E cx 0 0 (xt_Ep none (fun S9 => xt_mfr S S9 ∧ xt_ML S9 c r sd lv t v k ∧ ∀ y x, y < (xt_gh c r sd t) → x < (xt_gw c sd t) → S9.2.1 61 (8 * y + x) = xt_tJ c r sd lv bo t n v k (8 * y + x)))) 0 0 222 [some (.ref (E.1 49)), some (.int (nI n)), some (.int (nI y)), some (.int (nI x)), none, none, none] [] T := by
            intro d2
            induction d2 with
            | zero => intro x T h0x hfr hML hg h1x; exact absurd h1x (by omega)
            | succ d2 ih2 =>
              intro x T h0x hfr hML hg h1x
              have hMt := hML.1
              obtain ⟨m1, m2, m3, m4, g1, g2, g3, g4, g5, g6, g7⟩ := id hMt
              refine xt_iload_n C dX6_decodes_222 rfl ?_
              refine xt_aload_n C dX6_decodes_223 rfl ?_
              refine xt_get (f := 19) C xt_u6 rfl (by decide) (xt_cl49 _ _) (by decide) lkX6_38 rfl dX6_decodes_224 ?_
              refine xt_iconst (v := nI 0) C dX6_decodes_227 rfl ?_
              refine xt_ialdN C (by decide) (xt_cl57 _) (by decide) (by decide) (show T.2.1 57 0 = nI (xt_gw c sd t) from by rw [(m4 0 (by omega)).1, xt_lo_0]) dX6_decodes_228 ?_
              refine xt_icmp_geN (tgt := 270) C dX6_decodes_229 (by decide) (by omega) (by omega) (fun c229 => ?_) (fun c229 => ?_)
              · refine xt_iincN (z := 1) (lo' := [_, _, _, _, _, _, _]) C dX6_decodes_270 rfl rfl rfl ?_
                refine xt_goto (tgt := 210) C dX6_decodes_273 (by decide) ?_
                exact xt_fg (by repeat' constructor) (ih1 (y + 1) T (by omega) hfr hML (xt_gd_n (by omega) hg) (by omega))
              · refine xt_aload_n C dX6_decodes_232 rfl ?_
                refine xt_get (f := 23) C xt_u6 rfl (by decide) (xt_cl49 _ _) (by decide) lkX6_51 rfl dX6_decodes_233 ?_
                refine xt_aload_n C dX6_decodes_236 rfl ?_
                refine xt_iload_n C dX6_decodes_237 rfl ?_
                refine xt_iload_n C dX6_decodes_238 rfl ?_
                refine xt_cV C mv_X6_place lkX6_116 ct_mplace rfl (by decide) (xt_cl49 _ _) rfl (by decide) rfl (Nat.le_of_ble_eq_true rfl) dX6_decodes_239 ?_
                refine xt_iconst (v := nI 0) C dX6_decodes_242 rfl ?_
                refine xt_sipush (v := nI 255) C dX6_decodes_243 (by decide) ?_
                refine xt_aload_n C dX6_decodes_246 rfl ?_
                refine xt_get (f := 23) C xt_u6 rfl (by decide) (xt_cl49 _ _) (by decide) lkX6_51 rfl dX6_decodes_247 ?_
                refine xt_aload_n C dX6_decodes_250 rfl ?_
                refine xt_iload_n C dX6_decodes_251 rfl ?_
                refine xt_iload_n C dX6_decodes_252 rfl ?_
                refine xt_cV C mv_X6_place lkX6_116 ct_mplace rfl (by decide) (xt_cl49 _ _) rfl (by decide) rfl (Nat.le_of_ble_eq_true rfl) dX6_decodes_253 ?_
                refine xt_ialdN C (by decide) (xt_cl61 _) (by omega) (by decide) (xt_gd_b hg (by omega) (by omega)) dX6_decodes_256 ?_
                refine xt_mmin C lkX6_103 mw_min rfl ⟨by decide, Nat.le_of_ble_eq_true rfl, by decide, by decide⟩ dX6_decodes_257 ?_
                refine xt_mmax C lkX6_126 mw_max rfl ⟨by decide, Nat.le_of_ble_eq_true rfl, by decide, by decide⟩ dX6_decodes_260 ?_
                refine xt_iastN C (by decide) (xt_cl61 _) (by omega) (by decide) dX6_decodes_263 ?_
                refine xt_iincN (z := 1) (lo' := [_, _, _, _, _, _, _]) C dX6_decodes_264 rfl rfl rfl ?_
                refine xt_goto (tgt := 222) C dX6_decodes_267 (by decide) ?_
                exact xt_fg (by repeat' constructor) (ih2 (x + 1) _ (by omega) (xt_mfr_A (by omega) hfr) (xt_ML_A (by omega) hML) (by rw [xt_sA_s]; exact xt_gd_s g2 (by omega) hg rfl) (by omega))
          exact xt_fg (by repeat' constructor) (in2 ((xt_gw c sd t) + 1) 0 T (by omega) hfr hML hg (by omega))
    have loopJ : ∀ (m : Nat), m ≤ (xt_tD c r sd lv t) → ∀ (T : xt_St) (f : Nat → Int32), (xt_mfr S T) → (xt_ML T c r sd lv t v k) → T.2.1 61 = f → xt_jn 0 (xt_gw c sd t) (xt_gh c r sd t) m f = (xt_jn 0 (xt_gw c sd t) (xt_gh c r sd t) (xt_tD c r sd lv t) f0) → xt_X E cx (xt_ZM E cx 0 0 (xt_Ep none (fun S9 => xt_mfr S S9 ∧ xt_ML S9 c r sd lv t v k ∧ ∀ y x, y < (xt_gh c r sd t) → x < (xt_gw c sd t) → S9.2.1 61 (8 * y + x) = xt_tJ c r sd lv bo t n v k (8 * y + x)))) 0 0 127 [some (.ref (E.1 49)), some (.int (nI n)), some (.int (xt_pm m)), none, none, none, none] [] T := by
      intro m
      induction m with
      | zero =>
        intro hm T f hfr hML hj hf
        have hMt := hML.1
        obtain ⟨m1, m2, m3, m4, g1, g2, g3, g4, g5, g6, g7⟩ := id hMt
        show xt_X E cx (xt_ZM E cx 0 0 (xt_Ep none (fun S9 => xt_mfr S S9 ∧ xt_ML S9 c r sd lv t v k ∧ ∀ y x, y < (xt_gh c r sd t) → x < (xt_gw c sd t) → S9.2.1 61 (8 * y + x) = xt_tJ c r sd lv bo t n v k (8 * y + x)))) 0 0 127 [some (.ref (E.1 49)), some (.int (nI n)), some (.int (-1)), none, none, none, none] [] T
        refine xt_iload_n C dX6_decodes_127 rfl ?_
        refine xt_if_lt (tgt := 208) C dX6_decodes_128 (by decide) (fun c128 => ?_) (fun c128 => ?_)
        · refine xt_iconst (v := nI 0) C dX6_decodes_208 rfl ?_
          refine xt_istore_n (lo' := [_, _, _, _, _, _, _]) C dX6_decodes_209 (Nat.le_of_ble_eq_true rfl) rfl rfl ?_
          exact xt_fg (by repeat' constructor) (loopK ((xt_gh c r sd t) + 1) 0 T (by omega) hfr hML (by rw [← hf, hj]; exact xt_gd_0) (by omega))
        · exact absurd (by decide) c128
      | succ m ih =>
        intro hm T f hfr hML hj hf
        have hMt := hML.1
        obtain ⟨m1, m2, m3, m4, g1, g2, g3, g4, g5, g6, g7⟩ := id hMt
        have hlw := xt_lo_le (n := (xt_gw c sd t)) (k := m) (by omega)
        have hlh := xt_lo_le (n := (xt_gh c r sd t)) (k := m) (by omega)
        have hlw1 : 1 ≤ (xt_lo (xt_gw c sd t) m) := xt_lo_p (by omega) (by omega)
        have hlh1 : 1 ≤ (xt_lo (xt_gh c r sd t) m) := xt_lo_p (by omega) (by omega)
        show xt_X E cx (xt_ZM E cx 0 0 (xt_Ep none (fun S9 => xt_mfr S S9 ∧ xt_ML S9 c r sd lv t v k ∧ ∀ y x, y < (xt_gh c r sd t) → x < (xt_gw c sd t) → S9.2.1 61 (8 * y + x) = xt_tJ c r sd lv bo t n v k (8 * y + x)))) 0 0 127 [some (.ref (E.1 49)), some (.int (nI n)), some (.int (nI m)), none, none, none, none] [] T
        refine xt_iload_n C dX6_decodes_127 rfl ?_
        refine xt_if_ltN (tgt := 208) C dX6_decodes_128 (by decide) (by omega) ?_
        refine xt_iconst (v := nI 0) C dX6_decodes_131 rfl ?_
        refine xt_istore_n (lo' := [_, _, _, _, _, _, _]) C dX6_decodes_132 (Nat.le_of_ble_eq_true rfl) rfl rfl ?_
        have loopR : ∀ (dr y : Nat) (T : xt_St), y ≤ (xt_lo (xt_gh c r sd t) m) → (xt_mfr S T) → (xt_ML T c r sd lv t v k) → (T.2.1 61 = (xt_R (xt_jl 0 (xt_lo (xt_gw c sd t) m)) y (xt_C (xt_jl 0 (xt_lo (xt_gh c r sd t) m)) (xt_lo (xt_gw c sd t) m) f))) → (xt_lo (xt_gh c r sd t) m) + 1 ≤ y + dr → xt_X E cx (xt_ZM E cx 0 0 (xt_Ep none (fun S9 => xt_mfr S S9 ∧ xt_ML S9 c r sd lv t v k ∧ ∀ y x, y < (xt_gh c r sd t) → x < (xt_gw c sd t) → S9.2.1 61 (8 * y + x) = xt_tJ c r sd lv bo t n v k (8 * y + x)))) 0 0 169 [some (.ref (E.1 49)), some (.int (nI n)), some (.int (nI m)), some (.int (nI y)), none, none, none] [] T := by
          intro dr
          induction dr with
          | zero => intro y T h0y hfr hML hj h1y; exact absurd h1y (by omega)
          | succ dr ihr =>
            intro y T h0y hfr hML hj h1y
            have hMt := hML.1
            obtain ⟨m1, m2, m3, m4, g1, g2, g3, g4, g5, g6, g7⟩ := id hMt
            refine xt_iload_n C dX6_decodes_169 rfl ?_
            refine xt_aload_n C dX6_decodes_170 rfl ?_
            refine xt_get (f := 20) C xt_u6 rfl (by decide) (xt_cl49 _ _) (by decide) lkX6_41 rfl dX6_decodes_171 ?_
            refine xt_iload_n C dX6_decodes_174 rfl ?_
            refine xt_ialdN C (by decide) (xt_cl58 _) (by omega) (by decide) (m4 m (by omega)).2 dX6_decodes_175 ?_
            refine xt_icmp_geN (tgt := 202) C dX6_decodes_176 (by decide) (by omega) (by omega) (fun c176 => ?_) (fun c176 => ?_)
            · refine xt_iinc (lo' := [_, _, _, _, _, _, _]) C dX6_decodes_202 rfl rfl rfl rfl ?_
              refine xt_goto (tgt := 127) C dX6_decodes_205 (by decide) ?_
              rw [xt_pm_i]
              have hy9 : y = (xt_lo (xt_gh c r sd t) m) := by omega
              subst hy9
              exact xt_fg (by repeat' constructor) (ih (by omega) T _ hfr hML hj (by rw [← hf]; rfl))
            · refine xt_aload_n C dX6_decodes_179 rfl ?_
              refine xt_aload_n C dX6_decodes_180 rfl ?_
              refine xt_iconst (v := nI 0) C dX6_decodes_181 rfl ?_
              refine xt_iload_n C dX6_decodes_182 rfl ?_
              refine xt_cV C mv_X6_place lkX6_116 ct_mplace rfl (by decide) (xt_cl49 _ _) rfl (by decide) rfl (Nat.le_of_ble_eq_true rfl) dX6_decodes_183 ?_
              refine xt_iconst (v := nI 1) C dX6_decodes_186 rfl ?_
              refine xt_aload_n C dX6_decodes_187 rfl ?_
              refine xt_get (f := 19) C xt_u6 rfl (by decide) (xt_cl49 _ _) (by decide) lkX6_38 rfl dX6_decodes_188 ?_
              refine xt_iload_n C dX6_decodes_191 rfl ?_
              refine xt_ialdN C (by decide) (xt_cl57 _) (by omega) (by decide) (m4 m (by omega)).1 dX6_decodes_192 ?_
              refine xt_cVpn C mv_X6_joins lkX6_136 (ct_mjoins (by omega) (by omega) (by decide) (fun j hj => by omega)) rfl (by decide) (xt_cl49 _ _) rfl (by decide) rfl (Nat.le_of_ble_eq_true rfl) dX6_decodes_193 (fun S9 hq9 => ?_)
              obtain ⟨r9, f9, rfl, hp9⟩ := hq9
              rw [hj] at hp9
              have e1 := xt_R_s (F := xt_jl 0 (xt_lo (xt_gw c sd t) m)) (f := (xt_C (xt_jl 0 (xt_lo (xt_gh c r sd t) m)) (xt_lo (xt_gw c sd t) m) f)) (by omega) xt_jl_o hp9
              refine xt_iincN (z := 1) (lo' := [_, _, _, _, _, _, _]) C dX6_decodes_196 rfl rfl rfl ?_
              refine xt_goto (tgt := 169) C dX6_decodes_199 (by decide) ?_
              have hfs : xt_mfr S (xt_sA (xt_sA T 62 r9) 61 f9) := xt_mfr_A (by omega) (xt_mfr_A (by omega) hfr)
              have hms : xt_ML (xt_sA (xt_sA T 62 r9) 61 f9) c r sd lv t v k := xt_ML_A (by omega) (xt_ML_A (by omega) hML)
              have hcs : (xt_sA (xt_sA T 62 r9) 61 f9).2.1 61 = (xt_R (xt_jl 0 (xt_lo (xt_gw c sd t) m)) (y + 1) (xt_C (xt_jl 0 (xt_lo (xt_gh c r sd t) m)) (xt_lo (xt_gw c sd t) m) f)) := by rw [xt_sA_s]; exact e1
              exact xt_fg (by repeat' constructor) (ihr (y + 1) _ (by omega) hfs hms hcs (by omega))
        have loopC : ∀ (dc x : Nat) (T : xt_St), x ≤ (xt_lo (xt_gw c sd t) m) → (xt_mfr S T) → (xt_ML T c r sd lv t v k) → (T.2.1 61 = (xt_C (xt_jl 0 (xt_lo (xt_gh c r sd t) m)) x f)) → (xt_lo (xt_gw c sd t) m) + 1 ≤ x + dc → xt_X E cx (xt_ZM E cx 0 0 (xt_Ep none (fun S9 => xt_mfr S S9 ∧ xt_ML S9 c r sd lv t v k ∧ ∀ y x, y < (xt_gh c r sd t) → x < (xt_gw c sd t) → S9.2.1 61 (8 * y + x) = xt_tJ c r sd lv bo t n v k (8 * y + x)))) 0 0 133 [some (.ref (E.1 49)), some (.int (nI n)), some (.int (nI m)), some (.int (nI x)), none, none, none] [] T := by
          intro dc
          induction dc with
          | zero => intro x T h0x hfr hML hj h1x; exact absurd h1x (by omega)
          | succ dc ihc =>
            intro x T h0x hfr hML hj h1x
            have hMt := hML.1
            obtain ⟨m1, m2, m3, m4, g1, g2, g3, g4, g5, g6, g7⟩ := id hMt
            refine xt_iload_n C dX6_decodes_133 rfl ?_
            refine xt_aload_n C dX6_decodes_134 rfl ?_
            refine xt_get (f := 19) C xt_u6 rfl (by decide) (xt_cl49 _ _) (by decide) lkX6_38 rfl dX6_decodes_135 ?_
            refine xt_iload_n C dX6_decodes_138 rfl ?_
            refine xt_ialdN C (by decide) (xt_cl57 _) (by omega) (by decide) (m4 m (by omega)).1 dX6_decodes_139 ?_
            refine xt_icmp_geN (tgt := 167) C dX6_decodes_140 (by decide) (by omega) (by omega) (fun c140 => ?_) (fun c140 => ?_)
            · refine xt_iconst (v := nI 0) C dX6_decodes_167 rfl ?_
              refine xt_istore_n (lo' := [_, _, _, _, _, _, _]) C dX6_decodes_168 (Nat.le_of_ble_eq_true rfl) rfl rfl ?_
              have hx9 : x = (xt_lo (xt_gw c sd t) m) := by omega
              subst hx9
              exact xt_fg (by repeat' constructor) (loopR ((xt_lo (xt_gh c r sd t) m) + 1) 0 T (by omega) hfr hML (by rw [hj, xt_R_0]) (by omega))
            · refine xt_aload_n C dX6_decodes_143 rfl ?_
              refine xt_aload_n C dX6_decodes_144 rfl ?_
              refine xt_iload_n C dX6_decodes_145 rfl ?_
              refine xt_iconst (v := nI 0) C dX6_decodes_146 rfl ?_
              refine xt_cV C mv_X6_place lkX6_116 ct_mplace rfl (by decide) (xt_cl49 _ _) rfl (by decide) rfl (Nat.le_of_ble_eq_true rfl) dX6_decodes_147 ?_
              refine xt_bipush (v := nI 8) C dX6_decodes_150 (by decide) ?_
              refine xt_aload_n C dX6_decodes_152 rfl ?_
              refine xt_get (f := 20) C xt_u6 rfl (by decide) (xt_cl49 _ _) (by decide) lkX6_41 rfl dX6_decodes_153 ?_
              refine xt_iload_n C dX6_decodes_156 rfl ?_
              refine xt_ialdN C (by decide) (xt_cl58 _) (by omega) (by decide) (m4 m (by omega)).2 dX6_decodes_157 ?_
              refine xt_cVpn C mv_X6_joins lkX6_136 (ct_mjoins (by omega) (by omega) (by decide) (fun j hj => by omega)) rfl (by decide) (xt_cl49 _ _) rfl (by decide) rfl (Nat.le_of_ble_eq_true rfl) dX6_decodes_158 (fun S9 hq9 => ?_)
              obtain ⟨r9, f9, rfl, hp9⟩ := hq9
              rw [hj] at hp9
              have e1 := xt_C_s (F := xt_jl 0 (xt_lo (xt_gh c r sd t) m)) (f := f) (by omega) xt_jl_o hp9
              refine xt_iincN (z := 1) (lo' := [_, _, _, _, _, _, _]) C dX6_decodes_161 rfl rfl rfl ?_
              refine xt_goto (tgt := 133) C dX6_decodes_164 (by decide) ?_
              have hfs : xt_mfr S (xt_sA (xt_sA T 62 r9) 61 f9) := xt_mfr_A (by omega) (xt_mfr_A (by omega) hfr)
              have hms : xt_ML (xt_sA (xt_sA T 62 r9) 61 f9) c r sd lv t v k := xt_ML_A (by omega) (xt_ML_A (by omega) hML)
              have hcs : (xt_sA (xt_sA T 62 r9) 61 f9).2.1 61 = (xt_C (xt_jl 0 (xt_lo (xt_gh c r sd t) m)) (x + 1) f) := by rw [xt_sA_s]; exact e1
              exact xt_fg (by repeat' constructor) (ihc (x + 1) _ (by omega) hfs hms hcs (by omega))
        exact xt_fg (by repeat' constructor) (loopC ((xt_lo (xt_gw c sd t) m) + 1) 0 T (by omega) hfr hML (by rw [hj, xt_C_0]) (by omega))
    intro T hfr hML hj
    exact loopJ (xt_tD c r sd lv t) (Nat.le_refl _) T f0 hfr hML hj rfl
  have grid : ∀ (g0 : Nat → Int32), S.2.1 61 = g0 → xt_X E cx (xt_ZM E cx 0 0 (xt_Ep none (fun S9 => xt_mfr S S9 ∧ xt_ML S9 c r sd lv t v k ∧ ∀ y x, y < (xt_gh c r sd t) → x < (xt_gw c sd t) → S9.2.1 61 (8 * y + x) = xt_tJ c r sd lv bo t n v k (8 * y + x)))) 0 0 2 [some (.ref (E.1 49)), some (.int (nI n)), some (.int (nI 0)), none, none, none, none] [] S := by
    intro g0 e0
    have out1 : ∀ (d1 y : Nat) (T : xt_St), y ≤ (xt_gh c r sd t) → (xt_mfr S T) → (xt_ML T c r sd lv t v k) → (xt_gd (xt_gw c sd t) (xt_gh c r sd t) (T.2.1 61) (xt_tF c r sd lv bo t n v k) g0 y 0) → (xt_gh c r sd t) + 1 ≤ y + d1 → xt_X E cx (xt_ZM E cx 0 0 (xt_Ep none (fun S9 => xt_mfr S S9 ∧ xt_ML S9 c r sd lv t v k ∧ ∀ y x, y < (xt_gh c r sd t) → x < (xt_gw c sd t) → S9.2.1 61 (8 * y + x) = xt_tJ c r sd lv bo t n v k (8 * y + x)))) 0 0 2 [some (.ref (E.1 49)), some (.int (nI n)), some (.int (nI y)), none, none, none, none] [] T := by
      intro d1
      induction d1 with
      | zero => intro y T h0y hfr hML hg h1y; exact absurd h1y (by omega)
      | succ d1 ih1 =>
        intro y T h0y hfr hML hg h1y
        have hMt := hML.1
        obtain ⟨m1, m2, m3, m4, g1, g2, g3, g4, g5, g6, g7⟩ := id hMt
        refine xt_iload_n C dX6_decodes_2 rfl ?_
        refine xt_aload_n C dX6_decodes_3 rfl ?_
        refine xt_get (f := 20) C xt_u6 rfl (by decide) (xt_cl49 _ _) (by decide) lkX6_41 rfl dX6_decodes_4 ?_
        refine xt_iconst (v := nI 0) C dX6_decodes_7 rfl ?_
        refine xt_ialdN C (by decide) (xt_cl58 _) (by decide) (by decide) (show T.2.1 58 0 = nI (xt_gh c r sd t) from by rw [(m4 0 (by omega)).2, xt_lo_0]) dX6_decodes_8 ?_
        refine xt_icmp_geN (tgt := 120) C dX6_decodes_9 (by decide) (by omega) (by omega) (fun c9 => ?_) (fun c9 => ?_)
        · refine xt_aload_n C dX6_decodes_120 rfl ?_
          refine xt_get (f := 18) C xt_u6 rfl (by decide) (xt_cl49 _ _) (by decide) lkX6_109 (xt_vI m3) dX6_decodes_121 ?_
          refine xt_iconst (v := nI 1) C dX6_decodes_124 rfl ?_
          refine xt_isub C dX6_decodes_125 ?_
          rw [xt_pm_s]
          refine xt_istore_n (lo' := [_, _, _, _, _, _, _]) C dX6_decodes_126 (Nat.le_of_ble_eq_true rfl) rfl rfl ?_
          have hF0 : xt_ag (xt_gw c sd t) (xt_gh c r sd t) (T.2.1 61) (xt_tF c r sd lv bo t n v k) := fun p h1 h2 => by
            have h9 := xt_gd_e (by omega) hg h2 h1
            rw [show 8 * (p / 8) + p % 8 = p by omega] at h9
            exact h9
          exact xt_fg (by repeat' constructor) (loopJ0 _ hF0 T hfr hML rfl)
        · refine xt_iconst (v := nI 0) C dX6_decodes_12 rfl ?_
          refine xt_istore_n (lo' := [_, _, _, _, _, _, _]) C dX6_decodes_13 (Nat.le_of_ble_eq_true rfl) rfl rfl ?_
          have in2 : ∀ (d2 x : Nat) (T : xt_St), x ≤ (xt_gw c sd t) → (xt_mfr S T) → (xt_ML T c r sd lv t v k) → (xt_gd (xt_gw c sd t) (xt_gh c r sd t) (T.2.1 61) (xt_tF c r sd lv bo t n v k) g0 y x) → (xt_gw c sd t) + 1 ≤ x + d2 → xt_X E cx (xt_ZM E cx 0 0 (xt_Ep none (fun S9 => xt_mfr S S9 ∧ xt_ML S9 c r sd lv t v k ∧ ∀ y x, y < (xt_gh c r sd t) → x < (xt_gw c sd t) → S9.2.1 61 (8 * y + x) = xt_tJ c r sd lv bo t n v k (8 * y + x)))) 0 0 14 [some (.ref (E.1 49)), some (.int (nI n)), some (.int (nI y)), some (.int (nI x)), none, none, none] [] T := by
            intro d2
            induction d2 with
            | zero => intro x T h0x hfr hML hg h1x; exact absurd h1x (by omega)
            | succ d2 ih2 =>
              intro x T h0x hfr hML hg h1x
              have hMt := hML.1
              obtain ⟨m1, m2, m3, m4, g1, g2, g3, g4, g5, g6, g7⟩ := id hMt
              refine xt_iload_n C dX6_decodes_14 rfl ?_
              refine xt_aload_n C dX6_decodes_15 rfl ?_
              refine xt_get (f := 19) C xt_u6 rfl (by decide) (xt_cl49 _ _) (by decide) lkX6_38 rfl dX6_decodes_16 ?_
              refine xt_iconst (v := nI 0) C dX6_decodes_19 rfl ?_
              refine xt_ialdN C (by decide) (xt_cl57 _) (by decide) (by decide) (show T.2.1 57 0 = nI (xt_gw c sd t) from by rw [(m4 0 (by omega)).1, xt_lo_0]) dX6_decodes_20 ?_
              refine xt_icmp_geN (tgt := 114) C dX6_decodes_21 (by decide) (by omega) (by omega) (fun c21 => ?_) (fun c21 => ?_)
              · refine xt_iincN (z := 1) (lo' := [_, _, _, _, _, _, _]) C dX6_decodes_114 rfl rfl rfl ?_
                refine xt_goto (tgt := 2) C dX6_decodes_117 (by decide) ?_
                exact xt_fg (by repeat' constructor) (ih1 (y + 1) T (by omega) hfr hML (xt_gd_n (by omega) hg) (by omega))
              · refine xt_aload_n C dX6_decodes_24 rfl ?_
                refine xt_iload_n C dX6_decodes_25 rfl ?_
                refine xt_iload_n C dX6_decodes_26 rfl ?_
                refine xt_cV C mv_X6_place lkX6_116 ct_mplace rfl (by decide) (xt_cl49 _ _) rfl (by decide) rfl (Nat.le_of_ble_eq_true rfl) dX6_decodes_27 ?_
                refine xt_istore (lo' := [_, _, _, _, _, _, _]) C dX6_decodes_30 (Nat.le_of_ble_eq_true rfl) rfl rfl ?_
                refine xt_iconst (v := nI 0) C dX6_decodes_32 rfl ?_
                refine xt_istore (lo' := [_, _, _, _, _, _, _]) C dX6_decodes_33 (Nat.le_of_ble_eq_true rfl) rfl rfl ?_
                refine xt_iconst (v := nI 0) C dX6_decodes_35 rfl ?_
                refine xt_istore (lo' := [_, _, _, _, _, _, _]) C dX6_decodes_36 (Nat.le_of_ble_eq_true rfl) rfl rfl ?_
                have in3 : ∀ (d3 p : Nat), p ≤ 9 →  9 + 1 ≤ p + d3 → xt_X E cx (xt_ZM E cx 0 0 (xt_Ep none (fun S9 => xt_mfr S S9 ∧ xt_ML S9 c r sd lv t v k ∧ ∀ y x, y < (xt_gh c r sd t) → x < (xt_gw c sd t) → S9.2.1 61 (8 * y + x) = xt_tJ c r sd lv bo t n v k (8 * y + x)))) 0 0 38 [some (.ref (E.1 49)), some (.int (nI n)), some (.int (nI y)), some (.int (nI x)), some (.int (nI (8 * y + x))), some (.int (xt_am (xt_abs (xt_tC c r sd lv t v (8 * y + x))) (xt_tM c r sd lv t k (8 * y + x)) bo n p)), some (.int (nI p))] [] T := by
                  intro d3
                  induction d3 with
                  | zero => intro p  h0p  h1p; exact absurd h1p (by omega)
                  | succ d3 ih3 =>
                    intro p  h0p  h1p
                    have hlay : xt_lay (xt_tM c r sd lv t k (8 * y + x)) bo p ≤ 8 := by unfold xt_lay; split <;> omega
                    refine xt_iload C dX6_decodes_38 rfl ?_
                    refine xt_bipush (v := nI 9) C dX6_decodes_40 (by decide) ?_
                    refine xt_icmp_geN (tgt := 83) C dX6_decodes_42 (by decide) (by omega) (by omega) (fun c42 => ?_) (fun c42 => ?_)
                    · have hp9 : p = 9 := by omega
                      subst hp9
                      rw [xt_am_cut (hA y x (by omega) (by omega)) b7 hn9]
                      refine xt_aload_n C dX6_decodes_83 rfl ?_
                      refine xt_get (f := 23) C xt_u6 rfl (by decide) (xt_cl49 _ _) (by decide) lkX6_51 rfl dX6_decodes_84 ?_
                      refine xt_iload C dX6_decodes_87 rfl ?_
                      refine xt_aload_n C dX6_decodes_89 rfl ?_
                      refine xt_get (f := 21) C xt_u6 rfl (by decide) (xt_cl49 _ _) (by decide) lkX6_44 rfl dX6_decodes_90 ?_
                      refine xt_iload C dX6_decodes_93 rfl ?_
                      refine xt_ialdN C (by decide) (xt_cl59 _) (by omega) (by decide) (hML.2 y x (by omega) (by omega)).1 dX6_decodes_95 ?_
                      refine xt_if_ge (tgt := 105) C dX6_decodes_96 (by decide) (fun c96 => ?_) (fun c96 => ?_)
                      · have hv9 : xt_cut (xt_abs (xt_tC c r sd lv t v (8 * y + x))) (xt_mis (xt_tM c r sd lv t k (8 * y + x)) bo n) = (xt_tF c r sd lv bo t n v k) (8 * y + x) := (if_neg (Int32.not_lt.mpr c96)).symm
                        refine xt_iload C dX6_decodes_105 rfl ?_
                        refine xt_iastN C (by decide) (xt_cl61 _) (by omega) (by decide) dX6_decodes_107 ?_
                        refine xt_iincN (z := 1) (lo' := [_, _, _, _, _, _, _]) C dX6_decodes_108 rfl rfl rfl ?_
                        refine xt_goto (tgt := 14) C dX6_decodes_111 (by decide) ?_
                        exact xt_fg (by repeat' constructor) (ih2 (x + 1) _ (by omega) (xt_mfr_A (by omega) hfr) (xt_ML_A (by omega) hML) (by rw [xt_sA_s]; exact xt_gd_s g2 (by omega) hg hv9) (by omega))
                      · have hv9 : -xt_cut (xt_abs (xt_tC c r sd lv t v (8 * y + x))) (xt_mis (xt_tM c r sd lv t k (8 * y + x)) bo n) = (xt_tF c r sd lv bo t n v k) (8 * y + x) := (if_pos (Int32.not_le.mp c96)).symm
                        refine xt_iload C dX6_decodes_99 rfl ?_
                        refine xt_ineg C dX6_decodes_101 ?_
                        refine xt_goto (tgt := 107) C dX6_decodes_102 (by decide) ?_
                        refine xt_iastN C (by decide) (xt_cl61 _) (by omega) (by decide) dX6_decodes_107 ?_
                        refine xt_iincN (z := 1) (lo' := [_, _, _, _, _, _, _]) C dX6_decodes_108 rfl rfl rfl ?_
                        refine xt_goto (tgt := 14) C dX6_decodes_111 (by decide) ?_
                        exact xt_fg (by repeat' constructor) (ih2 (x + 1) _ (by omega) (xt_mfr_A (by omega) hfr) (xt_ML_A (by omega) hML) (by rw [xt_sA_s]; exact xt_gd_s g2 (by omega) hg hv9) (by omega))
                    · refine xt_aload_n C dX6_decodes_45 rfl ?_
                      refine xt_iload C dX6_decodes_46 rfl ?_
                      refine xt_iload C dX6_decodes_48 rfl ?_
                      refine xt_cV C mv_X6_layer lkX6_129 (ct_mlayer (by omega) (hML.2 y x (by omega) (by omega)).2 xt_tM_le (by rw [hfr.2.1 50 (by omega)]; exact hb) (by omega) (by omega)) rfl (by decide) (xt_cl49 _ _) rfl (by decide) rfl (Nat.le_of_ble_eq_true rfl) dX6_decodes_50 ?_
                      refine xt_iload_n C dX6_decodes_53 rfl ?_
                      refine xt_icmp_geN (tgt := 77) C dX6_decodes_54 (by decide) (by omega) (by omega) (fun c54 => ?_) (fun c54 => ?_)
                      · refine xt_iincN (z := 1) (lo' := [_, _, _, _, _, _, _]) C dX6_decodes_77 rfl rfl rfl ?_
                        refine xt_goto (tgt := 38) C dX6_decodes_80 (by decide) ?_
                        have h9 := ih3 (p + 1) (by omega) (by omega)
                        first
                        | rw [xt_am1 c54] at h9
                        | rw [xt_am0 c54] at h9
                        exact xt_fg (by repeat' constructor) h9
                      · refine xt_iload C dX6_decodes_57 rfl ?_
                        refine xt_aload_n C dX6_decodes_59 rfl ?_
                        refine xt_get (f := 21) C xt_u6 rfl (by decide) (xt_cl49 _ _) (by decide) lkX6_44 rfl dX6_decodes_60 ?_
                        refine xt_iload C dX6_decodes_63 rfl ?_
                        refine xt_ialdN C (by decide) (xt_cl59 _) (by omega) (by decide) (hML.2 y x (by omega) (by omega)).1 dX6_decodes_65 ?_
                        refine xt_mabs C lkX6_132 mw_abs rfl ⟨by decide, Nat.le_of_ble_eq_true rfl, by decide, by decide⟩ dX6_decodes_66 ?_
                        rw [xt_ab]
                        refine xt_iconst (v := nI 1) C dX6_decodes_69 rfl ?_
                        refine xt_iload C dX6_decodes_70 rfl ?_
                        refine xt_ishlN C dX6_decodes_72 (by have h9 : 2 ^ p ≤ 2 ^ 8 := Nat.pow_le_pow_right (by decide) (by omega); omega) (by omega) ?_
                        refine xt_iand C dX6_decodes_73 ?_
                        refine xt_iadd C dX6_decodes_74 ?_
                        refine xt_istore (lo' := [_, _, _, _, _, _, _]) C dX6_decodes_75 (Nat.le_of_ble_eq_true rfl) rfl rfl ?_
                        refine xt_iincN (z := 1) (lo' := [_, _, _, _, _, _, _]) C dX6_decodes_77 rfl rfl rfl ?_
                        refine xt_goto (tgt := 38) C dX6_decodes_80 (by decide) ?_
                        have h9 := ih3 (p + 1) (by omega) (by omega)
                        first
                        | rw [xt_am1 c54] at h9
                        | rw [xt_am0 c54] at h9
                        exact xt_fg (by repeat' constructor) h9
                exact xt_fg (by repeat' constructor) (in3 (9 + 1) 0 (by omega) (by omega))
          exact xt_fg (by repeat' constructor) (in2 ((xt_gw c sd t) + 1) 0 T (by omega) hfr hML hg (by omega))
    exact out1 ((xt_gh c r sd t) + 1) 0 S (by omega) xt_mfr_rf hL (by rw [← e0]; exact xt_gd_0) (by omega)
  refine xt_iconst (v := nI 0) C dX6_decodes_0 rfl ?_
  refine xt_istore_n (lo' := [_, _, _, _, _, _, _]) C dX6_decodes_1 (Nat.le_of_ble_eq_true rfl) rfl rfl ?_
  exact xt_fg (by repeat' constructor) (grid _ rfl)
end XM6
