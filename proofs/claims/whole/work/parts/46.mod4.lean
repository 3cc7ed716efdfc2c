/-! THE MODEL: looks -/
section XM4
variable {E : xt_Ev} {l : Launch} {S : xt_St}
theorem xt_Mt_k {T : xt_St} {lf tp w h dp : Nat} (hM : xt_Mt S lf tp w h dp) (h1 : T.1 49 = S.1 49) (h2 : T.2.1 57 = S.2.1 57) (h3 : T.2.1 58 = S.2.1 58) : xt_Mt T lf tp w h dp := by
  unfold xt_Mt at hM ⊢
  rw [h1, h2, h3]
  exact hM
/-- the values and masks of a tile's places, so far -/
def xt_mct (v k : Nat → Int32) (c lf tp w h : Nat) (T : xt_St) (y x : Nat) : Prop := ∀ y9 x9, y9 < h → x9 < w → (y9 < y ∨ (y9 = y ∧ x9 < x)) → T.2.1 59 (8 * y9 + x9) = v ((tp + y9) * c + (lf + x9)) ∧ T.2.1 60 (8 * y9 + x9) = k ((tp + y9) * c + (lf + x9))
theorem xt_mct_s {v k : Nat → Int32} {c lf tp w h : Nat} {T : xt_St} {y x : Nat} {a u : Int32} (hw : w ≤ 8) (hx : x < w) (hct : xt_mct v k c lf tp w h T y x) (ha : a = v ((tp + y) * c + (lf + x))) (hu : u = k ((tp + y) * c + (lf + x))) :
    xt_mct v k c lf tp w h (xt_sA (xt_sA T 59 (upd (T.2.1 59) (8 * y + x) a)) 60 (upd ((xt_sA T 59 (upd (T.2.1 59) (8 * y + x) a)).2.1 60) (8 * y + x) u)) y (x + 1) := by
  intro y9 x9 h1 h2 h3
  rw [xt_sA_n (by decide), xt_sA_s, xt_sA_s, xt_sA_n (by decide)]
  by_cases e : y9 = y ∧ x9 = x
  · obtain ⟨rfl, rfl⟩ := e
    rw [xt_up_s, xt_up_s]
    exact ⟨ha, hu⟩
  · rw [xt_up_n (by omega), xt_up_n (by omega)]
    exact hct y9 x9 h1 h2 (by omega)
/-- the tile that was looked at -/
def xt_ML (S : xt_St) (c r sd pl t : Nat) (v k : Nat → Int32) : Prop := xt_Mt S (xt_gl c sd t) (xt_gt c sd t) (xt_gw c sd t) (xt_gh c r sd t) (xt_tD c r sd pl t) ∧ ∀ y x, y < xt_gh c r sd t → x < xt_gw c sd t → S.2.1 59 (8 * y + x) = xt_tC c r sd pl t v (8 * y + x) ∧ S.2.1 60 (8 * y + x) = nI (xt_tM c r sd pl t k (8 * y + x))
theorem xt_ML_end {c r sd pl t : Nat} {v k f0 m0 : Nat → Int32} {T : xt_St} (hMt : xt_Mt T (xt_gl c sd t) (xt_gt c sd t) (xt_gw c sd t) (xt_gh c r sd t) (xt_tD c r sd pl t))
    (h1 : T.2.1 59 = xt_co (xt_gw c sd t) (xt_gh c r sd t) (xt_tD c r sd pl t) f0) (h2 : T.2.1 60 = xt_mco (xt_gw c sd t) (xt_gh c r sd t) (xt_tD c r sd pl t) m0)
    (h3 : ∀ y x, y < xt_gh c r sd t → x < xt_gw c sd t → f0 (8 * y + x) = v ((xt_gt c sd t + y) * c + (xt_gl c sd t + x)) ∧ m0 (8 * y + x) = k ((xt_gt c sd t + y) * c + (xt_gl c sd t + x))) (h01 : xt_m01 (xt_gw c sd t) (xt_gh c r sd t) m0) : xt_ML T c r sd pl t v k := by
  obtain ⟨-, -, -, -, g1, g2, g3, g4, g5, -⟩ := id hMt
  refine ⟨hMt, fun y x hy hx => ⟨?_, ?_⟩⟩
  · rw [h1]
    refine xt_co_ag g2 (by omega) (fun p a b => ?_) (8 * y + x) (by omega) (by omega)
    have h9 := (h3 (p / 8) (p % 8) b a).1
    rw [show 8 * (p / 8) + p % 8 = p by omega] at h9
    exact h9
  · rw [h2, xt_mco_e (k := k) (c := c) (lf := xt_gl c sd t) (tp := xt_gt c sd t) g2 g5 (fun x y a b => (h3 y x b a).2) h01 hx hy]
    unfold xt_tM
    rw [show (8 * y + x) % 8 = x by omega, show (8 * y + x) / 8 = y by omega]
theorem xt_lo_p {n k : Nat} (hk : k ≤ 4) (hn : 1 ≤ n) : 1 ≤ xt_lo n k := by
  induction k with
  | zero => rw [xt_lo_0]; exact hn
  | succ k ih =>
    have h1 := ih (by omega)
    have h2 := xt_lo_s (n := n) (k := k) (by omega)
    omega
set_option maxRecDepth 20000 in
set_option maxHeartbeats 2000000 in
theorem ct_looks {c r sd lv bo : Nat} (hM : xt_Mp S c r sd lv bo) {t : Nat} (ht : t < xt_nt c r sd) (hk : ∀ j, j < 256 → xt_mK S j = nI 0 ∨ xt_mK S j = nI 1) : xt_Ct E l yX6_looks cX6_looks 4 none 3 61 0 0 [.ref (E.1 49), .int (nI t)] S (xt_Ep none (fun S9 => xt_mfr S S9 ∧ xt_ML S9 c r sd lv t (xt_mV S) (xt_mK S))) := by
  refine xt_body (by decide +kernel) (xt_all rfl) (Nat.le_of_ble_eq_true rfl) (fun cx C hl9 => ?_)
  show xt_X E cx _ 0 0 0 [some (.ref (E.1 49)), some (.int (nI t)), none, none] [] S
  have hM9 := hM
  obtain ⟨hc, hr, hs, hv, hb, b1, b2, b3, b4, b5, b6, b7⟩ := hM
  have hn := xt_nt_b ⟨b1, b2⟩ ⟨b3, b4⟩ b5
  have hT := xt_tile_b ⟨b1, b2⟩ ⟨b3, b4⟩ b5 ht
  have hdl : (xt_tD c r sd lv t) ≤ 3 := xt_dep_le.2
  have loopL0 : ∀ (f0 m0 : Nat → Int32), (∀ y x, y < (xt_gh c r sd t) → x < (xt_gw c sd t) → f0 (8 * y + x) = xt_mV S (((xt_gt c sd t) + y) * c + ((xt_gl c sd t) + x)) ∧ m0 (8 * y + x) = xt_mK S (((xt_gt c sd t) + y) * c + ((xt_gl c sd t) + x))) → xt_m01 (xt_gw c sd t) (xt_gh c r sd t) m0 → ∀ (T : xt_St), (xt_mfr S T) → (xt_Mt T (xt_gl c sd t) (xt_gt c sd t) (xt_gw c sd t) (xt_gh c r sd t) (xt_tD c r sd lv t)) → T.2.1 59 = f0 → T.2.1 60 = m0 → xt_X E cx (xt_ZM E cx 0 0 (xt_Ep none (fun S9 => xt_mfr S S9 ∧ xt_ML S9 c r sd lv t (xt_mV S) (xt_mK S)))) 0 0 117 [some (.ref (E.1 49)), some (.int (nI t)), some (.int (nI 0)), none] [] T := by
    intro f0 m0 h3 h01
    have loopL : ∀ (d i : Nat) (T : xt_St), i ≤ (xt_tD c r sd lv t) → (xt_mfr S T) → (xt_Mt T (xt_gl c sd t) (xt_gt c sd t) (xt_gw c sd t) (xt_gh c r sd t) (xt_tD c r sd lv t)) → (T.2.1 59 = (xt_co (xt_gw c sd t) (xt_gh c r sd t) i f0)) → (T.2.1 60 = (xt_mco (xt_gw c sd t) (xt_gh c r sd t) i m0)) → (xt_tD c r sd lv t) + 1 ≤ i + d → xt_X E cx (xt_ZM E cx 0 0 (xt_Ep none (fun S9 => xt_mfr S S9 ∧ xt_ML S9 c r sd lv t (xt_mV S) (xt_mK S)))) 0 0 117 [some (.ref (E.1 49)), some (.int (nI t)), some (.int (nI i)), none] [] T := by
      intro d
      induction d with
      | zero => intro i T h0i hfr hMt hco hmc h1i; exact absurd h1i (by omega)
      | succ d ih =>
        intro i T h0i hfr hMt hco hmc h1i
        obtain ⟨m1, m2, m3, m4, g1, g2, g3, g4, g5, g6, g7⟩ := id hMt
        refine xt_iload_n C dX6_looks_117 rfl ?_
        refine xt_aload_n C dX6_looks_118 rfl ?_
        refine xt_get (f := 18) C xt_u6 rfl (by decide) (xt_cl49 _ _) (by decide) lkX6_109 (xt_vI m3) dX6_looks_119 ?_
        refine xt_icmp_geN (tgt := 202) C dX6_looks_122 (by decide) (by omega) (by omega) (fun c122 => ?_) (fun c122 => ?_)
        · exact xt_vret C dX6_looks_202 ⟨by decide, by decide⟩ ⟨rfl, hfr, xt_ML_end hMt (by rw [hco, show i = (xt_tD c r sd lv t) by omega]) (by rw [hmc, show i = (xt_tD c r sd lv t) by omega]) h3 h01⟩
        · refine xt_iconst (v := nI 0) C dX6_looks_125 rfl ?_
          refine xt_istore_n (lo' := [_, _, _, _]) C dX6_looks_126 (Nat.le_of_ble_eq_true rfl) rfl rfl ?_
          have hlw := xt_lo_le (n := (xt_gw c sd t)) (k := i) (by omega)
          have hlh := xt_lo_le (n := (xt_gh c r sd t)) (k := i) (by omega)
          have hlw1 : 1 ≤ (xt_lo (xt_gw c sd t) i) := xt_lo_p (by omega) (by omega)
          have hlh1 : 1 ≤ (xt_lo (xt_gh c r sd t) i) := xt_lo_p (by omega) (by omega)
          have loopC : ∀ (dc x : Nat) (T : xt_St), x ≤ (xt_lo (xt_gw c sd t) i) → (xt_mfr S T) → (xt_Mt T (xt_gl c sd t) (xt_gt c sd t) (xt_gw c sd t) (xt_gh c r sd t) (xt_tD c r sd lv t)) → (T.2.1 59 = (xt_C (xt_sp (xt_lo (xt_gh c r sd t) i)) x (xt_R (xt_sp (xt_lo (xt_gw c sd t) i)) (xt_lo (xt_gh c r sd t) i) (xt_co (xt_gw c sd t) (xt_gh c r sd t) i f0)))) → (T.2.1 60 = (xt_C (xt_msp (xt_lo (xt_gh c r sd t) i)) x (xt_R (xt_msp (xt_lo (xt_gw c sd t) i)) (xt_lo (xt_gh c r sd t) i) (xt_mco (xt_gw c sd t) (xt_gh c r sd t) i m0)))) → (xt_lo (xt_gw c sd t) i) + 1 ≤ x + dc → xt_X E cx (xt_ZM E cx 0 0 (xt_Ep none (fun S9 => xt_mfr S S9 ∧ xt_ML S9 c r sd lv t (xt_mV S) (xt_mK S)))) 0 0 162 [some (.ref (E.1 49)), some (.int (nI t)), some (.int (nI i)), some (.int (nI x))] [] T := by
            intro dc
            induction dc with
            | zero => intro x T h0x hfr hMt hco hmc h1x; exact absurd h1x (by omega)
            | succ dc ihc =>
              intro x T h0x hfr hMt hco hmc h1x
              obtain ⟨m1, m2, m3, m4, g1, g2, g3, g4, g5, g6, g7⟩ := id hMt
              have h01T : xt_m01 (xt_gw c sd t) (xt_gh c r sd t) (T.2.1 60) := by rw [hmc]; exact xt_C_01 hlh g2 (xt_R_01 hlw g2 (xt_mco_01 g2 (by omega) h01))
              refine xt_iload_n C dX6_looks_162 rfl ?_
              refine xt_aload_n C dX6_looks_163 rfl ?_
              refine xt_get (f := 19) C xt_u6 rfl (by decide) (xt_cl49 _ _) (by decide) lkX6_38 rfl dX6_looks_164 ?_
              refine xt_iload_n C dX6_looks_167 rfl ?_
              refine xt_ialdN C (by decide) (xt_cl57 _) (by omega) (by decide) (m4 i (by omega)).1 dX6_looks_168 ?_
              refine xt_icmp_geN (tgt := 196) C dX6_looks_169 (by decide) (by omega) (by omega) (fun c169 => ?_) (fun c169 => ?_)
              · refine xt_iincN (z := 1) (lo' := [_, _, _, _]) C dX6_looks_196 rfl rfl rfl ?_
                refine xt_goto (tgt := 117) C dX6_looks_199 (by decide) ?_
                have hx9 : x = (xt_lo (xt_gw c sd t) i) := by omega
                subst hx9
                exact xt_fg (by repeat' constructor) (ih (i + 1) T (by omega) hfr hMt hco hmc (by omega))
              · refine xt_aload_n C dX6_looks_172 rfl ?_
                refine xt_aload_n C dX6_looks_173 rfl ?_
                refine xt_iload_n C dX6_looks_174 rfl ?_
                refine xt_iconst (v := nI 0) C dX6_looks_175 rfl ?_
                refine xt_cV C mv_X6_place lkX6_116 ct_mplace rfl (by decide) (xt_cl49 _ _) rfl (by decide) rfl (Nat.le_of_ble_eq_true rfl) dX6_looks_176 ?_
                refine xt_bipush (v := nI 8) C dX6_looks_179 (by decide) ?_
                refine xt_aload_n C dX6_looks_181 rfl ?_
                refine xt_get (f := 20) C xt_u6 rfl (by decide) (xt_cl49 _ _) (by decide) lkX6_41 rfl dX6_looks_182 ?_
                refine xt_iload_n C dX6_looks_185 rfl ?_
                refine xt_ialdN C (by decide) (xt_cl58 _) (by omega) (by decide) (m4 i (by omega)).2 dX6_looks_186 ?_
                refine xt_cVpn C mv_X6_splits lkX6_122 (ct_splits (by omega) (by omega) (by decide) (fun j hj => by omega) (fun j hj => h01T _ ⟨by omega, by omega⟩)) rfl (by decide) (xt_cl49 _ _) rfl (by decide) rfl (Nat.le_of_ble_eq_true rfl) dX6_looks_187 (fun S9 hq9 => ?_)
                obtain ⟨r9, q9, f9, m9, rfl, hp9, hq9⟩ := hq9
                rw [hco] at hp9
                rw [hmc] at hq9
                have e1 := xt_C_s (F := xt_sp (xt_lo (xt_gh c r sd t) i)) (f := (xt_R (xt_sp (xt_lo (xt_gw c sd t) i)) (xt_lo (xt_gh c r sd t) i) (xt_co (xt_gw c sd t) (xt_gh c r sd t) i f0))) (by omega) xt_sp_o hp9
                have e2 := xt_C_s (F := xt_msp (xt_lo (xt_gh c r sd t) i)) (f := (xt_R (xt_msp (xt_lo (xt_gw c sd t) i)) (xt_lo (xt_gh c r sd t) i) (xt_mco (xt_gw c sd t) (xt_gh c r sd t) i m0))) (by omega) xt_msp_o hq9
                refine xt_iincN (z := 1) (lo' := [_, _, _, _]) C dX6_looks_190 rfl rfl rfl ?_
                refine xt_goto (tgt := 162) C dX6_looks_193 (by decide) ?_
                have hfs : xt_mfr S (xt_sA (xt_sA (xt_sA (xt_sA T 62 r9) 63 q9) 59 f9) 60 m9) := (xt_mfr_A (by omega) (xt_mfr_A (by omega) (xt_mfr_A (by omega) (xt_mfr_A (by omega) hfr))))
                have hms : xt_Mt (xt_sA (xt_sA (xt_sA (xt_sA T 62 r9) 63 q9) 59 f9) 60 m9) (xt_gl c sd t) (xt_gt c sd t) (xt_gw c sd t) (xt_gh c r sd t) (xt_tD c r sd lv t) := (xt_Mt_k hMt rfl (by rw [xt_sA_n (by decide), xt_sA_n (by decide), xt_sA_n (by decide), xt_sA_n (by decide)]) (by rw [xt_sA_n (by decide), xt_sA_n (by decide), xt_sA_n (by decide), xt_sA_n (by decide)]))
                have hcs : (xt_sA (xt_sA (xt_sA (xt_sA T 62 r9) 63 q9) 59 f9) 60 m9).2.1 59 = (xt_C (xt_sp (xt_lo (xt_gh c r sd t) i)) (x + 1) (xt_R (xt_sp (xt_lo (xt_gw c sd t) i)) (xt_lo (xt_gh c r sd t) i) (xt_co (xt_gw c sd t) (xt_gh c r sd t) i f0))) := by rw [xt_sA_n (by decide), xt_sA_s]; exact e1
                have hds : (xt_sA (xt_sA (xt_sA (xt_sA T 62 r9) 63 q9) 59 f9) 60 m9).2.1 60 = (xt_C (xt_msp (xt_lo (xt_gh c r sd t) i)) (x + 1) (xt_R (xt_msp (xt_lo (xt_gw c sd t) i)) (xt_lo (xt_gh c r sd t) i) (xt_mco (xt_gw c sd t) (xt_gh c r sd t) i m0))) := by rw [xt_sA_s]; exact e2
                exact xt_fg (by repeat' constructor) (ihc (x + 1) _ (by omega) hfs hms hcs hds (by omega))
          have loopR : ∀ (dr y : Nat) (T : xt_St), y ≤ (xt_lo (xt_gh c r sd t) i) → (xt_mfr S T) → (xt_Mt T (xt_gl c sd t) (xt_gt c sd t) (xt_gw c sd t) (xt_gh c r sd t) (xt_tD c r sd lv t)) → (T.2.1 59 = (xt_R (xt_sp (xt_lo (xt_gw c sd t) i)) y (xt_co (xt_gw c sd t) (xt_gh c r sd t) i f0))) → (T.2.1 60 = (xt_R (xt_msp (xt_lo (xt_gw c sd t) i)) y (xt_mco (xt_gw c sd t) (xt_gh c r sd t) i m0))) → (xt_lo (xt_gh c r sd t) i) + 1 ≤ y + dr → xt_X E cx (xt_ZM E cx 0 0 (xt_Ep none (fun S9 => xt_mfr S S9 ∧ xt_ML S9 c r sd lv t (xt_mV S) (xt_mK S)))) 0 0 127 [some (.ref (E.1 49)), some (.int (nI t)), some (.int (nI i)), some (.int (nI y))] [] T := by
            intro dr
            induction dr with
            | zero => intro y T h0y hfr hMt hco hmc h1y; exact absurd h1y (by omega)
            | succ dr ihr =>
              intro y T h0y hfr hMt hco hmc h1y
              obtain ⟨m1, m2, m3, m4, g1, g2, g3, g4, g5, g6, g7⟩ := id hMt
              have h01T : xt_m01 (xt_gw c sd t) (xt_gh c r sd t) (T.2.1 60) := by rw [hmc]; exact xt_R_01 hlw g2 (xt_mco_01 g2 (by omega) h01)
              refine xt_iload_n C dX6_looks_127 rfl ?_
              refine xt_aload_n C dX6_looks_128 rfl ?_
              refine xt_get (f := 20) C xt_u6 rfl (by decide) (xt_cl49 _ _) (by decide) lkX6_41 rfl dX6_looks_129 ?_
              refine xt_iload_n C dX6_looks_132 rfl ?_
              refine xt_ialdN C (by decide) (xt_cl58 _) (by omega) (by decide) (m4 i (by omega)).2 dX6_looks_133 ?_
              refine xt_icmp_geN (tgt := 160) C dX6_looks_134 (by decide) (by omega) (by omega) (fun c134 => ?_) (fun c134 => ?_)
              · refine xt_iconst (v := nI 0) C dX6_looks_160 rfl ?_
                refine xt_istore_n (lo' := [_, _, _, _]) C dX6_looks_161 (Nat.le_of_ble_eq_true rfl) rfl rfl ?_
                have hy9 : y = (xt_lo (xt_gh c r sd t) i) := by omega
                subst hy9
                exact xt_fg (by repeat' constructor) (loopC ((xt_lo (xt_gw c sd t) i) + 1) 0 T (by omega) hfr hMt (by rw [hco, xt_C_0]) (by rw [hmc, xt_C_0]) (by omega))
              · refine xt_aload_n C dX6_looks_137 rfl ?_
                refine xt_aload_n C dX6_looks_138 rfl ?_
                refine xt_iconst (v := nI 0) C dX6_looks_139 rfl ?_
                refine xt_iload_n C dX6_looks_140 rfl ?_
                refine xt_cV C mv_X6_place lkX6_116 ct_mplace rfl (by decide) (xt_cl49 _ _) rfl (by decide) rfl (Nat.le_of_ble_eq_true rfl) dX6_looks_141 ?_
                refine xt_iconst (v := nI 1) C dX6_looks_144 rfl ?_
                refine xt_aload_n C dX6_looks_145 rfl ?_
                refine xt_get (f := 19) C xt_u6 rfl (by decide) (xt_cl49 _ _) (by decide) lkX6_38 rfl dX6_looks_146 ?_
                refine xt_iload_n C dX6_looks_149 rfl ?_
                refine xt_ialdN C (by decide) (xt_cl57 _) (by omega) (by decide) (m4 i (by omega)).1 dX6_looks_150 ?_
                refine xt_cVpn C mv_X6_splits lkX6_122 (ct_splits (by omega) (by omega) (by decide) (fun j hj => by omega) (fun j hj => h01T _ ⟨by omega, by omega⟩)) rfl (by decide) (xt_cl49 _ _) rfl (by decide) rfl (Nat.le_of_ble_eq_true rfl) dX6_looks_151 (fun S9 hq9 => ?_)
                obtain ⟨r9, q9, f9, m9, rfl, hp9, hq9⟩ := hq9
                rw [hco] at hp9
                rw [hmc] at hq9
                have e1 := xt_R_s (F := xt_sp (xt_lo (xt_gw c sd t) i)) (f := (xt_co (xt_gw c sd t) (xt_gh c r sd t) i f0)) (by omega) xt_sp_o hp9
                have e2 := xt_R_s (F := xt_msp (xt_lo (xt_gw c sd t) i)) (f := (xt_mco (xt_gw c sd t) (xt_gh c r sd t) i m0)) (by omega) xt_msp_o hq9
                refine xt_iincN (z := 1) (lo' := [_, _, _, _]) C dX6_looks_154 rfl rfl rfl ?_
                refine xt_goto (tgt := 127) C dX6_looks_157 (by decide) ?_
                have hfs : xt_mfr S (xt_sA (xt_sA (xt_sA (xt_sA T 62 r9) 63 q9) 59 f9) 60 m9) := (xt_mfr_A (by omega) (xt_mfr_A (by omega) (xt_mfr_A (by omega) (xt_mfr_A (by omega) hfr))))
                have hms : xt_Mt (xt_sA (xt_sA (xt_sA (xt_sA T 62 r9) 63 q9) 59 f9) 60 m9) (xt_gl c sd t) (xt_gt c sd t) (xt_gw c sd t) (xt_gh c r sd t) (xt_tD c r sd lv t) := (xt_Mt_k hMt rfl (by rw [xt_sA_n (by decide), xt_sA_n (by decide), xt_sA_n (by decide), xt_sA_n (by decide)]) (by rw [xt_sA_n (by decide), xt_sA_n (by decide), xt_sA_n (by decide), xt_sA_n (by decide)]))
                have hcs : (xt_sA (xt_sA (xt_sA (xt_sA T 62 r9) 63 q9) 59 f9) 60 m9).2.1 59 = (xt_R (xt_sp (xt_lo (xt_gw c sd t) i)) (y + 1) (xt_co (xt_gw c sd t) (xt_gh c r sd t) i f0)) := by rw [xt_sA_n (by decide), xt_sA_s]; exact e1
                have hds : (xt_sA (xt_sA (xt_sA (xt_sA T 62 r9) 63 q9) 59 f9) 60 m9).2.1 60 = (xt_R (xt_msp (xt_lo (xt_gw c sd t) i)) (y + 1) (xt_mco (xt_gw c sd t) (xt_gh c r sd t) i m0)) := by rw [xt_sA_s]; exact e2
                exact xt_fg (by repeat' constructor) (ihr (y + 1) _ (by omega) hfs hms hcs hds (by omega))
          exact xt_fg (by repeat' constructor) (loopR ((xt_lo (xt_gh c r sd t) i) + 1) 0 T (by omega) hfr hMt (by rw [hco, xt_R_0]) (by rw [hmc, xt_R_0]) (by omega))
    intro T hfr hMt e1 e2
    exact loopL ((xt_tD c r sd lv t) + 1) 0 T (by omega) hfr hMt e1 e2 (by omega)
  have out1 : ∀ (d1 y : Nat) (T : xt_St), y ≤ (xt_gh c r sd t) → (xt_mfr S T) → (xt_Mt T (xt_gl c sd t) (xt_gt c sd t) (xt_gw c sd t) (xt_gh c r sd t) (xt_tD c r sd lv t)) → (xt_mct (xt_mV S) (xt_mK S) c (xt_gl c sd t) (xt_gt c sd t) (xt_gw c sd t) (xt_gh c r sd t) T y 0) → (xt_gh c r sd t) + 1 ≤ y + d1 → xt_X E cx (xt_ZM E cx 0 0 (xt_Ep none (fun S9 => xt_mfr S S9 ∧ xt_ML S9 c r sd lv t (xt_mV S) (xt_mK S)))) 0 0 7 [some (.ref (E.1 49)), some (.int (nI t)), some (.int (nI y)), none] [] T := by
    intro d1
    induction d1 with
    | zero => intro y T h0y hfr hMt hct h1y; exact absurd h1y (by omega)
    | succ d1 ih1 =>
      intro y T h0y hfr hMt hct h1y
      obtain ⟨m1, m2, m3, m4, g1, g2, g3, g4, g5, g6, g7⟩ := id hMt
      refine xt_iload_n C dX6_looks_7 rfl ?_
      refine xt_aload_n C dX6_looks_8 rfl ?_
      refine xt_get (f := 20) C xt_u6 rfl (by decide) (xt_cl49 _ _) (by decide) lkX6_41 rfl dX6_looks_9 ?_
      refine xt_iconst (v := nI 0) C dX6_looks_12 rfl ?_
      refine xt_ialdN C (by decide) (xt_cl58 _) (by decide) (by decide) (show T.2.1 58 0 = nI (xt_gh c r sd t) from by rw [(m4 0 (by omega)).2, xt_lo_0]) dX6_looks_13 ?_
      refine xt_icmp_geN (tgt := 115) C dX6_looks_14 (by decide) (by omega) (by omega) (fun c14 => ?_) (fun c14 => ?_)
      · refine xt_iconst (v := nI 0) C dX6_looks_115 rfl ?_
        refine xt_istore_n (lo' := [_, _, _, _]) C dX6_looks_116 (Nat.le_of_ble_eq_true rfl) rfl rfl ?_
        have h3 : ∀ y9 x9, y9 < (xt_gh c r sd t) → x9 < (xt_gw c sd t) → T.2.1 59 (8 * y9 + x9) = xt_mV S (((xt_gt c sd t) + y9) * c + ((xt_gl c sd t) + x9)) ∧ T.2.1 60 (8 * y9 + x9) = xt_mK S (((xt_gt c sd t) + y9) * c + ((xt_gl c sd t) + x9)) := fun y9 x9 z1 z2 => hct y9 x9 z1 z2 (by omega)
        have h01 : xt_m01 (xt_gw c sd t) (xt_gh c r sd t) (T.2.1 60) := by
          intro p hp
          obtain ⟨p1, p2⟩ := hp
          have h9 := (h3 (p / 8) (p % 8) p2 p1).2
          rw [show 8 * (p / 8) + p % 8 = p by omega] at h9
          rw [h9]
          exact hk _ (xt_ix (c := c) (r := r) (by omega) (by omega) b2 b4).1
        exact xt_fg (by repeat' constructor) (loopL0 _ _ h3 h01 T hfr hMt rfl rfl)
      · refine xt_iconst (v := nI 0) C dX6_looks_17 rfl ?_
        refine xt_istore_n (lo' := [_, _, _, _]) C dX6_looks_18 (Nat.le_of_ble_eq_true rfl) rfl rfl ?_
        have in2 : ∀ (d2 x : Nat) (T : xt_St), x ≤ (xt_gw c sd t) → (xt_mfr S T) → (xt_Mt T (xt_gl c sd t) (xt_gt c sd t) (xt_gw c sd t) (xt_gh c r sd t) (xt_tD c r sd lv t)) → (xt_mct (xt_mV S) (xt_mK S) c (xt_gl c sd t) (xt_gt c sd t) (xt_gw c sd t) (xt_gh c r sd t) T y x) → (xt_gw c sd t) + 1 ≤ x + d2 → xt_X E cx (xt_ZM E cx 0 0 (xt_Ep none (fun S9 => xt_mfr S S9 ∧ xt_ML S9 c r sd lv t (xt_mV S) (xt_mK S)))) 0 0 19 [some (.ref (E.1 49)), some (.int (nI t)), some (.int (nI y)), some (.int (nI x))] [] T := by
          intro d2
          induction d2 with
          | zero => intro x T h0x hfr hMt hct h1x; exact absurd h1x (by omega)
          | succ d2 ih2 =>
            intro x T h0x hfr hMt hct h1x
            obtain ⟨m1, m2, m3, m4, g1, g2, g3, g4, g5, g6, g7⟩ := id hMt
            refine xt_iload_n C dX6_looks_19 rfl ?_
            refine xt_aload_n C dX6_looks_20 rfl ?_
            refine xt_get (f := 19) C xt_u6 rfl (by decide) (xt_cl49 _ _) (by decide) lkX6_38 rfl dX6_looks_21 ?_
            refine xt_iconst (v := nI 0) C dX6_looks_24 rfl ?_
            refine xt_ialdN C (by decide) (xt_cl57 _) (by decide) (by decide) (show T.2.1 57 0 = nI (xt_gw c sd t) from by rw [(m4 0 (by omega)).1, xt_lo_0]) dX6_looks_25 ?_
            refine xt_icmp_geN (tgt := 109) C dX6_looks_26 (by decide) (by omega) (by omega) (fun c26 => ?_) (fun c26 => ?_)
            · refine xt_iincN (z := 1) (lo' := [_, _, _, _]) C dX6_looks_109 rfl rfl rfl ?_
              refine xt_goto (tgt := 7) C dX6_looks_112 (by decide) ?_
              exact xt_fg (by repeat' constructor) (ih1 (y + 1) T (by omega) hfr hMt (fun y9 x9 z1 z2 z3 => hct y9 x9 z1 z2 (by omega)) (by omega))
            · have hix := (xt_ix (c := c) (r := r) (x := (xt_gl c sd t) + x) (y := (xt_gt c sd t) + y) (by omega) (by omega) b2 b4).1
              have hix2 : c * ((xt_gt c sd t) + y) + ((xt_gl c sd t) + x) < 256 := by rw [Nat.mul_comm]; exact hix
              have e9 : 261 + c * ((xt_gt c sd t) + y) + (xt_gl c sd t) + x = 261 + (((xt_gt c sd t) + y) * c + ((xt_gl c sd t) + x)) := by rw [Nat.mul_comm ((xt_gt c sd t) + y) c]; omega
              refine xt_aload_n C dX6_looks_29 rfl ?_
              refine xt_get (f := 21) C xt_u6 rfl (by decide) (xt_cl49 _ _) (by decide) lkX6_44 rfl dX6_looks_30 ?_
              refine xt_aload_n C dX6_looks_33 rfl ?_
              refine xt_iload_n C dX6_looks_34 rfl ?_
              refine xt_iload_n C dX6_looks_35 rfl ?_
              refine xt_cV C mv_X6_place lkX6_116 ct_mplace rfl (by decide) (xt_cl49 _ _) rfl (by decide) rfl (Nat.le_of_ble_eq_true rfl) dX6_looks_36 ?_
              refine xt_aload_n C dX6_looks_39 rfl ?_
              refine xt_aload_n C dX6_looks_40 rfl ?_
              refine xt_get (f := 16) C xt_u6 rfl (by decide) (xt_cl49 _ _) (by decide) lkX6_97 (xt_vI m1) dX6_looks_41 ?_
              refine xt_iload_n C dX6_looks_44 rfl ?_
              refine xt_iaddN C dX6_looks_45 ?_
              refine xt_aload_n C dX6_looks_46 rfl ?_
              refine xt_get (f := 17) C xt_u6 rfl (by decide) (xt_cl49 _ _) (by decide) lkX6_100 (xt_vI m2) dX6_looks_47 ?_
              refine xt_iload_n C dX6_looks_50 rfl ?_
              refine xt_iaddN C dX6_looks_51 ?_
              refine xt_cV C mv_X6_value lkX6_119 (ct_mvalue (by exact xt_mfr_Mp hfr hM9) (by exact hix)) rfl (by decide) (xt_cl49 _ _) rfl (by decide) rfl (Nat.le_of_ble_eq_true rfl) dX6_looks_52 ?_
              rw [(xt_mfr_v hfr).1]
              refine xt_iastN C (by decide) (xt_cl59 _) (by omega) (by decide) dX6_looks_55 ?_
              refine xt_aload_n C dX6_looks_56 rfl ?_
              refine xt_get (f := 22) C xt_u6 rfl (by decide) (xt_cl49 _ _) (by decide) lkX6_47 rfl dX6_looks_57 ?_
              refine xt_aload_n C dX6_looks_60 rfl ?_
              refine xt_iload_n C dX6_looks_61 rfl ?_
              refine xt_iload_n C dX6_looks_62 rfl ?_
              refine xt_cV C mv_X6_place lkX6_116 ct_mplace rfl (by decide) (xt_cl49 _ _) rfl (by decide) rfl (Nat.le_of_ble_eq_true rfl) dX6_looks_63 ?_
              refine xt_aload_n C dX6_looks_66 rfl ?_
              refine xt_get (f := 1) C xt_u6 rfl (by decide) (xt_cl49 _ _) (by decide) lkX6_9 rfl dX6_looks_67 ?_
              refine xt_sipush (v := nI 261) C dX6_looks_70 (by decide) ?_
              refine xt_aload_n C dX6_looks_73 rfl ?_
              refine xt_cV C mv_X6_columns lkX6_77 (ct_mcol (by exact xt_mfr_Mp (xt_mfr_A (by omega) hfr) hM9)) rfl (by decide) (xt_cl49 _ _) rfl (by decide) rfl (Nat.le_of_ble_eq_true rfl) dX6_looks_74 ?_
              refine xt_aload_n C dX6_looks_77 rfl ?_
              refine xt_get (f := 17) C xt_u6 rfl (by decide) (xt_cl49 _ _) (by decide) lkX6_100 (xt_vI m2) dX6_looks_78 ?_
              refine xt_iload_n C dX6_looks_81 rfl ?_
              refine xt_iaddN C dX6_looks_82 ?_
              refine xt_imulN C dX6_looks_83 ?_
              refine xt_iaddN C dX6_looks_84 ?_
              refine xt_aload_n C dX6_looks_85 rfl ?_
              refine xt_get (f := 16) C xt_u6 rfl (by decide) (xt_cl49 _ _) (by decide) lkX6_97 (xt_vI m1) dX6_looks_86 ?_
              refine xt_iaddN C dX6_looks_89 ?_
              refine xt_iload_n C dX6_looks_90 rfl ?_
              refine xt_iaddN C dX6_looks_91 ?_
              refine xt_ialdN C (by decide) (xt_cl50 _) (by omega) (by decide) (show T.2.1 50 (261 + c * ((xt_gt c sd t) + y) + (xt_gl c sd t) + x) = xt_mK S (((xt_gt c sd t) + y) * c + ((xt_gl c sd t) + x)) from by rw [e9, hfr.2.1 50 (by omega)]; rfl) dX6_looks_92 ?_
              refine xt_iconst (v := nI 1) C dX6_looks_93 rfl ?_
              refine xt_icmp_ne (tgt := 101) C dX6_looks_94 (by decide) (fun c94 => ?_) (fun c94 => ?_)
              · have hu : vp_nar .boolean (nI 0) = xt_mK S (((xt_gt c sd t) + y) * c + ((xt_gl c sd t) + x)) := (xt_nz (by decide)).trans ((hk _ hix).resolve_right c94).symm
                refine xt_iconst (v := nI 0) C dX6_looks_101 rfl ?_
                refine xt_zastN C (by decide) (xt_cl60 _) (by omega) (by decide) dX6_looks_102 ?_
                refine xt_iincN (z := 1) (lo' := [_, _, _, _]) C dX6_looks_103 rfl rfl rfl ?_
                refine xt_goto (tgt := 19) C dX6_looks_106 (by decide) ?_
                exact xt_fg (by repeat' constructor) (ih2 (x + 1) _ (by omega) (xt_mfr_A (by omega) (xt_mfr_A (by omega) hfr)) (xt_Mt_k hMt rfl (by rw [xt_sA_n (by decide), xt_sA_n (by decide)]) (by rw [xt_sA_n (by decide), xt_sA_n (by decide)])) (xt_mct_s g2 (by omega) hct rfl hu) (by omega))
              · have hu : vp_nar .boolean (nI 1) = xt_mK S (((xt_gt c sd t) + y) * c + ((xt_gl c sd t) + x)) := (xt_nz (by decide)).trans c94.symm
                refine xt_iconst (v := nI 1) C dX6_looks_97 rfl ?_
                refine xt_goto (tgt := 102) C dX6_looks_98 (by decide) ?_
                refine xt_zastN C (by decide) (xt_cl60 _) (by omega) (by decide) dX6_looks_102 ?_
                refine xt_iincN (z := 1) (lo' := [_, _, _, _]) C dX6_looks_103 rfl rfl rfl ?_
                refine xt_goto (tgt := 19) C dX6_looks_106 (by decide) ?_
                exact xt_fg (by repeat' constructor) (ih2 (x + 1) _ (by omega) (xt_mfr_A (by omega) (xt_mfr_A (by omega) hfr)) (xt_Mt_k hMt rfl (by rw [xt_sA_n (by decide), xt_sA_n (by decide)]) (by rw [xt_sA_n (by decide), xt_sA_n (by decide)])) (xt_mct_s g2 (by omega) hct rfl hu) (by omega))
        exact xt_fg (by repeat' constructor) (in2 ((xt_gw c sd t) + 1) 0 T (by omega) hfr hMt (fun y9 x9 z1 z2 z3 => hct y9 x9 z1 z2 (by omega)) (by omega))
  refine xt_aload_n C dX6_looks_0 rfl ?_
  refine xt_iload_n C dX6_looks_1 rfl ?_
  refine xt_cVpn C mv_X6_takes lkX6_112 (ct_takes (by exact hM9) ht) rfl (by decide) (xt_cl49 _ _) rfl (by decide) rfl (Nat.le_of_ble_eq_true rfl) dX6_looks_2 (fun S9 hq9 => ?_)
  obtain ⟨hfr, hMt⟩ := hq9
  refine xt_iconst (v := nI 0) C dX6_looks_5 rfl ?_
  refine xt_istore_n (lo' := [_, _, _, _]) C dX6_looks_6 (Nat.le_of_ble_eq_true rfl) rfl rfl ?_
  exact xt_fg (by repeat' constructor) (out1 ((xt_gh c r sd t) + 1) 0 S9 (by omega) hfr hMt (fun y9 x9 z1 z2 z3 => by omega) (by omega))
end XM4
