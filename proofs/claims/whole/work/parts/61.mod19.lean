/-! THE MODEL: joinsParts, needed -/
section XM19
variable {E : xt_Ev} {l : Launch} {S : xt_St}
theorem xt_sB_s {T : xt_St} {i : Nat} {g : Nat → Int64} : (xt_sB T i g).2.2.1 i = g := by simp [xt_sB]
theorem xt_sB_n {T : xt_St} {i j : Nat} {g : Nat → Int64} (h : j ≠ i) : (xt_sB T i g).2.2.1 j = T.2.2.1 j := by simp [xt_sB, h]
theorem xt_sB_sB {T : xt_St} {i : Nat} {g f : Nat → Int64} : xt_sB (xt_sB T i g) i f = xt_sB T i f := by
  unfold xt_sB
  refine congrArg (fun q => (T.1, T.2.1, q, T.2.2.2)) (funext fun j => ?_)
  by_cases e : j = i
  · simp [e]
  · simp [e]
theorem xt_sB_self {T : xt_St} {i : Nat} : xt_sB T i (T.2.2.1 i) = T := by
  unfold xt_sB
  have e : (fun i' => if i' = i then T.2.2.1 i else T.2.2.1 i') = T.2.2.1 := funext fun j => by
    by_cases e : j = i
    · simp [e]
    · simp [e]
  rw [e]
theorem xt_uL_s {f : Nat → Int64} {i : Nat} {x : Int64} : vp_updL f i x i = x := by simp [vp_updL]
theorem xt_uL_n {f : Nat → Int64} {i j : Nat} {x : Int64} (h : j ≠ i) : vp_updL f i x j = f j := by simp [vp_updL, h]
theorem xt_pv1 {g : Nat → Int64} {n i : Nat} (h : i + 2 = 2 * ((n + 1) / 2) ∧ n % 2 = 1) : xt_pv g n i = g ((n + 1) / 2 - 1) := if_pos h
theorem xt_pv0 {g : Nat → Int64} {n i : Nat} (h : ¬ (i + 2 = 2 * ((n + 1) / 2) ∧ n % 2 = 1)) : xt_pv g n i = g (i / 2) ||| g ((n + 1) / 2 + i / 2) := if_neg h
theorem xt_pv_c {g g' : Nat → Int64} {n i : Nat} (hi : i < n) (h : ∀ j, j < n → g j = g' j) : xt_pv g n i = xt_pv g' n i := by
  by_cases z : i + 2 = 2 * ((n + 1) / 2) ∧ n % 2 = 1
  · rw [xt_pv1 z, xt_pv1 z, h _ (by omega)]
  · rw [xt_pv0 z, xt_pv0 z, h _ (by omega), h _ (by omega)]
/-- the first i places of a row of parts joined -/
def xt_jp (p : Nat → Int64) (a st n i : Nat) (f : Nat → Int64) : Prop := (∀ j, j < i → f (a + st * j) = xt_pv (fun j => p (a + st * j)) n j) ∧ ∀ q, (∀ j, j < i → q ≠ a + st * j) → f q = p q
theorem xt_jp_0 {p : Nat → Int64} {a st n : Nat} : xt_jp p a st n 0 p := ⟨fun j hj => absurd hj (Nat.not_lt_zero _), fun _ _ => rfl⟩
theorem xt_jp_s {p f : Nat → Int64} {a st n i : Nat} {z : Int64} (hs : 1 ≤ st) (h : xt_jp p a st n i f) (hz : z = xt_pv (fun j => p (a + st * j)) n i) : xt_jp p a st n (i + 1) (vp_updL f (a + st * i) z) := by
  have inj : ∀ j, j ≠ i → a + st * j ≠ a + st * i := fun j hj e => hj (Nat.eq_of_mul_eq_mul_left hs (by omega))
  refine ⟨fun j hj => ?_, fun q hq => ?_⟩
  · by_cases e : j = i
    · rw [e, xt_uL_s, hz]
    · rw [xt_uL_n (inj j e)]
      exact h.1 j (by omega)
  · rw [xt_uL_n (hq i (by omega))]
    exact h.2 q (fun j hj => hq j (by omega))
set_option maxRecDepth 20000 in
set_option maxHeartbeats 2000000 in
theorem ct_joinsParts {a st n : Nat} (hst : 1 ≤ st) (hst8 : st ≤ 8) (ha : a < 64) (hn : 1 ≤ n ∧ n ≤ 8) (hb : ∀ i, i < n → a + st * i < 64) : xt_Ct E l yX6_joinsParts cX6_joinsParts 6 none 0 0 0 0 [.ref (E.1 49), .int (nI a), .int (nI st), .int (nI n)] S (xt_Ep none (fun S9 => ∃ g f, S9 = (xt_sB (xt_sB S 65 g) 64 f) ∧ xt_jp (S.2.2.1 64) a st n n f)) := by
  refine xt_body (by decide +kernel) (xt_all rfl) (Nat.le_of_ble_eq_true rfl) (fun cx C hl9 => ?_)
  show xt_X E cx _ 0 0 0 [some (.ref (E.1 49)), some (.int (nI a)), some (.int (nI st)), some (.int (nI n)), none, none] [] S
  have loop2 : ∀ (g : Nat → Int64), (∀ j, j < n → g j = S.2.2.1 64 (a + st * j)) → xt_X E cx (xt_ZM E cx 0 0 (xt_Ep none (fun S9 => ∃ g f, S9 = (xt_sB (xt_sB S 65 g) 64 f) ∧ xt_jp (S.2.2.1 64) a st n n f))) 0 0 43 [some (.ref (E.1 49)), some (.int (nI a)), some (.int (nI st)), some (.int (nI n)), some (.int (nI ((n + 1) / 2))), some (.int (nI 0))] [] (xt_sB S 65 g) := by
    intro g hg
    have lp : ∀ (d i : Nat) (f : Nat → Int64), i ≤ n → (xt_jp (S.2.2.1 64) a st n i f) → n + 1 ≤ i + d → xt_X E cx (xt_ZM E cx 0 0 (xt_Ep none (fun S9 => ∃ g f, S9 = (xt_sB (xt_sB S 65 g) 64 f) ∧ xt_jp (S.2.2.1 64) a st n n f))) 0 0 43 [some (.ref (E.1 49)), some (.int (nI a)), some (.int (nI st)), some (.int (nI n)), some (.int (nI ((n + 1) / 2))), some (.int (nI i))] [] (xt_sB (xt_sB S 65 g) 64 f) := by
      intro d
      induction d with
      | zero => intro i f h0i hf h1i; exact absurd h1i (by omega)
      | succ d ih =>
        intro i f h0i hf h1i
        refine xt_iload C dX6_joinsParts_43 rfl ?_
        refine xt_iload_n C dX6_joinsParts_45 rfl ?_
        refine xt_icmp_geN (tgt := 118) C dX6_joinsParts_46 (by decide) (by omega) (by omega) (fun c46 => ?_) (fun c46 => ?_)
        · exact xt_vret C dX6_joinsParts_118 ⟨by decide, by decide⟩ ⟨rfl, g, f, rfl, by rw [show i = n by omega] at hf; exact hf⟩
        · refine xt_aload_n C dX6_joinsParts_49 rfl ?_
          refine xt_get (f := 26) C xt_u6 rfl (by decide) (xt_cl49 _ _) (by decide) lkX6_60 rfl dX6_joinsParts_50 ?_
          refine xt_iload_n C dX6_joinsParts_53 rfl ?_
          refine xt_iload_n C dX6_joinsParts_54 rfl ?_
          refine xt_iload C dX6_joinsParts_55 rfl ?_
          refine xt_imulN C dX6_joinsParts_57 ?_
          refine xt_iaddN C dX6_joinsParts_58 ?_
          refine xt_iload C dX6_joinsParts_59 rfl ?_
          refine xt_iconst (v := nI 2) C dX6_joinsParts_61 rfl ?_
          refine xt_iload C dX6_joinsParts_62 rfl ?_
          refine xt_imulN C dX6_joinsParts_64 ?_
          refine xt_iconst (v := nI 2) C dX6_joinsParts_65 rfl ?_
          refine xt_isubN C dX6_joinsParts_66 (by omega) ?_
          refine xt_icmp_neN (tgt := 89) C dX6_joinsParts_67 (by decide) (by omega) (by omega) (fun c67 => ?_) (fun c67 => ?_)
          · have hpv : xt_pv (fun j => S.2.2.1 64 (a + st * j)) n i = _ := xt_pv0 (by omega)
            refine xt_aload_n C dX6_joinsParts_89 rfl ?_
            refine xt_get (f := 27) C xt_u6 rfl (by decide) (xt_cl49 _ _) (by decide) lkX6_64 rfl dX6_joinsParts_90 ?_
            refine xt_iload C dX6_joinsParts_93 rfl ?_
            refine xt_iconst (v := nI 2) C dX6_joinsParts_95 rfl ?_
            refine xt_idivN C dX6_joinsParts_96 (by omega) (by omega) (by omega) ?_
            refine xt_laldN C (by decide) (xt_cl65 _) (by omega) (by decide) (show (xt_sB (xt_sB S 65 g) 64 f).2.2.1 65 (i / 2) = S.2.2.1 64 (a + st * (i / 2)) from by rw [xt_sB_n (by decide), xt_sB_s]; exact hg _ (by omega)) dX6_joinsParts_97 ?_
            refine xt_aload_n C dX6_joinsParts_98 rfl ?_
            refine xt_get (f := 27) C xt_u6 rfl (by decide) (xt_cl49 _ _) (by decide) lkX6_64 rfl dX6_joinsParts_99 ?_
            refine xt_iload C dX6_joinsParts_102 rfl ?_
            refine xt_iload C dX6_joinsParts_104 rfl ?_
            refine xt_iconst (v := nI 2) C dX6_joinsParts_106 rfl ?_
            refine xt_idivN C dX6_joinsParts_107 (by omega) (by omega) (by omega) ?_
            refine xt_iaddN C dX6_joinsParts_108 ?_
            refine xt_laldN C (by decide) (xt_cl65 _) (by omega) (by decide) (show (xt_sB (xt_sB S 65 g) 64 f).2.2.1 65 ((n + 1) / 2 + i / 2) = S.2.2.1 64 (a + st * ((n + 1) / 2 + i / 2)) from by rw [xt_sB_n (by decide), xt_sB_s]; exact hg _ (by omega)) dX6_joinsParts_109 ?_
            refine xt_lor C dX6_joinsParts_110 ?_
            refine xt_lastN C (by decide) (xt_cl64 _) (hb i (by omega)) (by decide) dX6_joinsParts_111 ?_
            rw [xt_sB_s, xt_sB_sB]
            refine xt_iincN (z := 1) (lo' := [_, _, _, _, _, _]) C dX6_joinsParts_112 rfl rfl rfl ?_
            refine xt_goto (tgt := 43) C dX6_joinsParts_115 (by decide) ?_
            have h9 := ih (i + 1) (vp_updL f (a + st * i) (xt_pv (fun j => S.2.2.1 64 (a + st * j)) n i)) (by omega) (xt_jp_s hst hf rfl) (by omega)
            rw [hpv] at h9
            exact xt_fg (by repeat' constructor) h9
          · refine xt_iload_n C dX6_joinsParts_70 rfl ?_
            refine xt_iconst (v := nI 2) C dX6_joinsParts_71 rfl ?_
            refine xt_iremN C dX6_joinsParts_72 (by omega) (by omega) (by omega) ?_
            refine xt_iconst (v := nI 1) C dX6_joinsParts_73 rfl ?_
            refine xt_icmp_neN (tgt := 89) C dX6_joinsParts_74 (by decide) (by omega) (by omega) (fun c74 => ?_) (fun c74 => ?_)
            · have hpv : xt_pv (fun j => S.2.2.1 64 (a + st * j)) n i = _ := xt_pv0 (by omega)
              refine xt_aload_n C dX6_joinsParts_89 rfl ?_
              refine xt_get (f := 27) C xt_u6 rfl (by decide) (xt_cl49 _ _) (by decide) lkX6_64 rfl dX6_joinsParts_90 ?_
              refine xt_iload C dX6_joinsParts_93 rfl ?_
              refine xt_iconst (v := nI 2) C dX6_joinsParts_95 rfl ?_
              refine xt_idivN C dX6_joinsParts_96 (by omega) (by omega) (by omega) ?_
              refine xt_laldN C (by decide) (xt_cl65 _) (by omega) (by decide) (show (xt_sB (xt_sB S 65 g) 64 f).2.2.1 65 (i / 2) = S.2.2.1 64 (a + st * (i / 2)) from by rw [xt_sB_n (by decide), xt_sB_s]; exact hg _ (by omega)) dX6_joinsParts_97 ?_
              refine xt_aload_n C dX6_joinsParts_98 rfl ?_
              refine xt_get (f := 27) C xt_u6 rfl (by decide) (xt_cl49 _ _) (by decide) lkX6_64 rfl dX6_joinsParts_99 ?_
              refine xt_iload C dX6_joinsParts_102 rfl ?_
              refine xt_iload C dX6_joinsParts_104 rfl ?_
              refine xt_iconst (v := nI 2) C dX6_joinsParts_106 rfl ?_
              refine xt_idivN C dX6_joinsParts_107 (by omega) (by omega) (by omega) ?_
              refine xt_iaddN C dX6_joinsParts_108 ?_
              refine xt_laldN C (by decide) (xt_cl65 _) (by omega) (by decide) (show (xt_sB (xt_sB S 65 g) 64 f).2.2.1 65 ((n + 1) / 2 + i / 2) = S.2.2.1 64 (a + st * ((n + 1) / 2 + i / 2)) from by rw [xt_sB_n (by decide), xt_sB_s]; exact hg _ (by omega)) dX6_joinsParts_109 ?_
              refine xt_lor C dX6_joinsParts_110 ?_
              refine xt_lastN C (by decide) (xt_cl64 _) (hb i (by omega)) (by decide) dX6_joinsParts_111 ?_
              rw [xt_sB_s, xt_sB_sB]
              refine xt_iincN (z := 1) (lo' := [_, _, _, _, _, _]) C dX6_joinsParts_112 rfl rfl rfl ?_
              refine xt_goto (tgt := 43) C dX6_joinsParts_115 (by decide) ?_
              have h9 := ih (i + 1) (vp_updL f (a + st * i) (xt_pv (fun j => S.2.2.1 64 (a + st * j)) n i)) (by omega) (xt_jp_s hst hf rfl) (by omega)
              rw [hpv] at h9
              exact xt_fg (by repeat' constructor) h9
            · have hpv : xt_pv (fun j => S.2.2.1 64 (a + st * j)) n i = _ := xt_pv1 ⟨by omega, c74⟩
              refine xt_aload_n C dX6_joinsParts_77 rfl ?_
              refine xt_get (f := 27) C xt_u6 rfl (by decide) (xt_cl49 _ _) (by decide) lkX6_64 rfl dX6_joinsParts_78 ?_
              refine xt_iload C dX6_joinsParts_81 rfl ?_
              refine xt_iconst (v := nI 1) C dX6_joinsParts_83 rfl ?_
              refine xt_isubN C dX6_joinsParts_84 (by omega) ?_
              refine xt_laldN C (by decide) (xt_cl65 _) (by omega) (by decide) (show (xt_sB (xt_sB S 65 g) 64 f).2.2.1 65 ((n + 1) / 2 - 1) = S.2.2.1 64 (a + st * ((n + 1) / 2 - 1)) from by rw [xt_sB_n (by decide), xt_sB_s]; exact hg _ (by omega)) dX6_joinsParts_85 ?_
              refine xt_goto (tgt := 111) C dX6_joinsParts_86 (by decide) ?_
              refine xt_lastN C (by decide) (xt_cl64 _) (hb i (by omega)) (by decide) dX6_joinsParts_111 ?_
              rw [xt_sB_s, xt_sB_sB]
              refine xt_iincN (z := 1) (lo' := [_, _, _, _, _, _]) C dX6_joinsParts_112 rfl rfl rfl ?_
              refine xt_goto (tgt := 43) C dX6_joinsParts_115 (by decide) ?_
              have h9 := ih (i + 1) (vp_updL f (a + st * i) (xt_pv (fun j => S.2.2.1 64 (a + st * j)) n i)) (by omega) (xt_jp_s hst hf rfl) (by omega)
              rw [hpv] at h9
              exact xt_fg (by repeat' constructor) h9
    have h9 := lp (n + 1) 0 ((xt_sB S 65 g).2.2.1 64) (by omega) (by rw [xt_sB_n (by decide)]; exact xt_jp_0) (by omega)
    rw [xt_sB_self] at h9
    exact h9
  have loop1 : ∀ (d i : Nat) (g : Nat → Int64), i ≤ n → (∀ j, j < i → g j = S.2.2.1 64 (a + st * j)) → n + 1 ≤ i + d → xt_X E cx (xt_ZM E cx 0 0 (xt_Ep none (fun S9 => ∃ g f, S9 = (xt_sB (xt_sB S 65 g) 64 f) ∧ xt_jp (S.2.2.1 64) a st n n f))) 0 0 10 [some (.ref (E.1 49)), some (.int (nI a)), some (.int (nI st)), some (.int (nI n)), some (.int (nI ((n + 1) / 2))), some (.int (nI i))] [] (xt_sB S 65 g) := by
    intro d
    induction d with
    | zero => intro i g h0i hg h1i; exact absurd h1i (by omega)
    | succ d ih =>
      intro i g h0i hg h1i
      refine xt_iload C dX6_joinsParts_10 rfl ?_
      refine xt_iload_n C dX6_joinsParts_12 rfl ?_
      refine xt_icmp_geN (tgt := 40) C dX6_joinsParts_13 (by decide) (by omega) (by omega) (fun c13 => ?_) (fun c13 => ?_)
      · refine xt_iconst (v := nI 0) C dX6_joinsParts_40 rfl ?_
        refine xt_istore (lo' := [_, _, _, _, _, _]) C dX6_joinsParts_41 (Nat.le_of_ble_eq_true rfl) rfl rfl ?_
        have hi9 : i = n := by omega
        exact xt_fg (by repeat' constructor) (loop2 g (fun j hj => hg j (by omega)))
      · refine xt_aload_n C dX6_joinsParts_16 rfl ?_
        refine xt_get (f := 27) C xt_u6 rfl (by decide) (xt_cl49 _ _) (by decide) lkX6_64 rfl dX6_joinsParts_17 ?_
        refine xt_iload C dX6_joinsParts_20 rfl ?_
        refine xt_aload_n C dX6_joinsParts_22 rfl ?_
        refine xt_get (f := 26) C xt_u6 rfl (by decide) (xt_cl49 _ _) (by decide) lkX6_60 rfl dX6_joinsParts_23 ?_
        refine xt_iload_n C dX6_joinsParts_26 rfl ?_
        refine xt_iload_n C dX6_joinsParts_27 rfl ?_
        refine xt_iload C dX6_joinsParts_28 rfl ?_
        refine xt_imulN C dX6_joinsParts_30 ?_
        refine xt_iaddN C dX6_joinsParts_31 ?_
        refine xt_laldN C (by decide) (xt_cl64 _) (hb i (by omega)) (by decide) (show (xt_sB S 65 g).2.2.1 64 (a + st * i) = S.2.2.1 64 (a + st * i) from by rw [xt_sB_n (by decide)]) dX6_joinsParts_32 ?_
        refine xt_lastN C (by decide) (xt_cl65 _) (by omega) (by decide) dX6_joinsParts_33 ?_
        rw [xt_sB_s, xt_sB_sB]
        refine xt_iincN (z := 1) (lo' := [_, _, _, _, _, _]) C dX6_joinsParts_34 rfl rfl rfl ?_
        refine xt_goto (tgt := 10) C dX6_joinsParts_37 (by decide) ?_
        exact xt_fg (by repeat' constructor) (ih (i + 1) _ (by omega) (fun j hj => by
          by_cases e9 : j = i
          · rw [e9, xt_uL_s]
          · rw [xt_uL_n e9]; exact hg j (by omega)) (by omega))
  refine xt_iload_n C dX6_joinsParts_0 rfl ?_
  refine xt_iconst (v := nI 1) C dX6_joinsParts_1 rfl ?_
  refine xt_iaddN C dX6_joinsParts_2 ?_
  refine xt_iconst (v := nI 2) C dX6_joinsParts_3 rfl ?_
  refine xt_idivN C dX6_joinsParts_4 (by omega) (by omega) (by omega) ?_
  refine xt_istore (lo' := [_, _, _, _, _, _]) C dX6_joinsParts_5 (Nat.le_of_ble_eq_true rfl) rfl rfl ?_
  refine xt_iconst (v := nI 0) C dX6_joinsParts_7 rfl ?_
  refine xt_istore (lo' := [_, _, _, _, _, _]) C dX6_joinsParts_8 (Nat.le_of_ble_eq_true rfl) rfl rfl ?_
  have h9 := loop1 (n + 1) 0 (S.2.2.1 65) (by omega) (fun j hj => absurd hj (Nat.not_lt_zero _)) (by omega)
  rw [xt_sB_self] at h9
  exact xt_fg (by repeat' constructor) h9
/-- the columns joined so far; then the rows -/
def xt_pc9 (F : Nat → Nat → Int64) (n x y9 x9 : Nat) : Int64 := if y9 < n ∧ x9 < x then xt_pv (fun b => F b x9) n y9 else F y9 x9
def xt_pr9 (C : Nat → Nat → Int64) (n y y9 x9 : Nat) : Int64 := if y9 < y ∧ x9 < n then xt_pv (fun a => C y9 a) n x9 else C y9 x9
theorem xt_pc9_s {F : Nat → Nat → Int64} {p f : Nat → Int64} {w h n x : Nat} (hw : w ≤ 8) (hx : x < w) (hn : n ≤ h) (hf : xt_jp p (8 * 0 + x) 8 n n f) (hC : ∀ y9 x9, y9 < h → x9 < w → p (8 * y9 + x9) = xt_pc9 F n x y9 x9) : ∀ y9 x9, y9 < h → x9 < w → f (8 * y9 + x9) = xt_pc9 F n (x + 1) y9 x9 := by
  intro y9 x9 h1 h2
  by_cases z : x9 = x ∧ y9 < n
  · obtain ⟨z1, z2⟩ := z
    subst z1
    rw [show 8 * y9 + x9 = 8 * 0 + x9 + 8 * y9 by omega, hf.1 y9 z2]
    unfold xt_pc9
    rw [if_pos ⟨z2, by omega⟩]
    refine xt_pv_c z2 (fun j hj => ?_)
    rw [show 8 * 0 + x9 + 8 * j = 8 * j + x9 by omega, hC j x9 (by omega) h2]
    unfold xt_pc9
    rw [if_neg (by omega)]
  · rw [hf.2 _ (fun j hj e => z ⟨by omega, by omega⟩), hC y9 x9 h1 h2]
    unfold xt_pc9
    by_cases q : y9 < n ∧ x9 < x
    · rw [if_pos q, if_pos ⟨q.1, by omega⟩]
    · rw [if_neg q, if_neg (by omega)]
theorem xt_pr9_s {C : Nat → Nat → Int64} {p f : Nat → Int64} {w h n y : Nat} (hw : w ≤ 8) (hy : y < h) (hn : n ≤ w) (hf : xt_jp p (8 * y + 0) 1 n n f) (hC : ∀ y9 x9, y9 < h → x9 < w → p (8 * y9 + x9) = xt_pr9 C n y y9 x9) : ∀ y9 x9, y9 < h → x9 < w → f (8 * y9 + x9) = xt_pr9 C n (y + 1) y9 x9 := by
  intro y9 x9 h1 h2
  by_cases z : y9 = y ∧ x9 < n
  · obtain ⟨z1, z2⟩ := z
    subst z1
    rw [show 8 * y9 + x9 = 8 * y9 + 0 + 1 * x9 by omega, hf.1 x9 z2]
    unfold xt_pr9
    rw [if_pos ⟨by omega, z2⟩]
    refine xt_pv_c z2 (fun j hj => ?_)
    rw [show 8 * y9 + 0 + 1 * j = 8 * y9 + j by omega, hC y9 j h1 (by omega)]
    unfold xt_pr9
    rw [if_neg (by omega)]
  · rw [hf.2 _ (fun j hj e => z ⟨by omega, by omega⟩), hC y9 x9 h1 h2]
    unfold xt_pr9
    by_cases q : y9 < y ∧ x9 < n
    · rw [if_pos q, if_pos ⟨by omega, q.2⟩]
    · rw [if_neg q, if_neg (by omega)]
theorem xt_pc9_e {F : Nat → Nat → Int64} {w h m y9 x9 : Nat} : xt_pr9 (xt_pc9 F (xt_lo h m) (xt_lo w m)) (xt_lo w m) (xt_lo h m) y9 x9 = xt_pL w h m F y9 x9 := by
  unfold xt_pr9 xt_pL
  by_cases q : y9 < xt_lo h m ∧ x9 < xt_lo w m
  · rw [if_pos q, if_pos q]
    refine xt_pv_c q.2 (fun j hj => ?_)
    unfold xt_pc9
    rw [if_pos ⟨q.1, hj⟩]
  · rw [if_neg q, if_neg q]
    unfold xt_pc9
    rw [if_neg q]
set_option maxRecDepth 20000 in
set_option maxHeartbeats 2000000 in
theorem ct_mneeded {c r sd lv bo : Nat} (hM : xt_Mp S c r sd lv bo) {x y : Nat} (hx : x < c) (hy : y < r) {t : Nat} (et : t = y / sd * xt_ac c sd + x / sd) : xt_Ct E l yX6_needed cX6_needed 5 (some Jvm.ClassFile.FieldType.int) 3 61 0 0 [.ref (E.1 49), .int (nI x), .int (nI y)] S (xt_Ep (some (.int (nI (xt_need (xt_tD c r sd lv t) (xt_gw c sd t) (xt_gh c r sd t) (x - (xt_gl c sd t)) (y - (xt_gt c sd t)))))) (xt_mr S 0)) := by
  refine xt_body (by decide +kernel) (xt_all rfl) (Nat.le_of_ble_eq_true rfl) (fun cx C hl9 => ?_)
  show xt_X E cx _ 0 0 0 [some (.ref (E.1 49)), some (.int (nI x)), some (.int (nI y)), none, none] [] S
  have hM9 := hM
  obtain ⟨hc, hr, hs, hv, hb, b1, b2, b3, b4, b5, b6, b7⟩ := hM
  obtain ⟨ht, q1, q2, q3, q4⟩ := xt_tof ⟨b1, b2⟩ ⟨b3, b4⟩ b5 hx hy et
  have hn := xt_nt_b ⟨b1, b2⟩ ⟨b3, b4⟩ b5
  have hT := xt_tile_b ⟨b1, b2⟩ ⟨b3, b4⟩ b5 ht
  have hdl : (xt_tD c r sd lv t) ≤ 3 := xt_dep_le.2
  have loopJ : ∀ (m : Nat), m ≤ (xt_tD c r sd lv t) → ∀ (F : Nat → Nat → Int64), xt_pD (xt_gw c sd t) (xt_gh c r sd t) m F = xt_pD (xt_gw c sd t) (xt_gh c r sd t) (xt_tD c r sd lv t) xt_pB → ∀ (T : xt_St), (xt_mfr (xt_sN S 49 0 (nI 0)) T) → (xt_Mt T (xt_gl c sd t) (xt_gt c sd t) (xt_gw c sd t) (xt_gh c r sd t) (xt_tD c r sd lv t)) → (∀ y9 x9, y9 < (xt_gh c r sd t) → x9 < (xt_gw c sd t) → T.2.2.1 64 (8 * y9 + x9) = F y9 x9) → xt_X E cx (xt_ZM E cx 0 0 (xt_Ep (some (.int (nI (xt_need (xt_tD c r sd lv t) (xt_gw c sd t) (xt_gh c r sd t) (x - (xt_gl c sd t)) (y - (xt_gt c sd t)))))) (xt_mr S 0))) 0 0 76 [some (.ref (E.1 49)), some (.int (nI x)), some (.int (nI y)), some (.int (xt_pm m)), none] [] T := by
    intro m
    induction m with
    | zero =>
      intro hm F hF T hfr hMt hT9
      replace hF : F = xt_pD (xt_gw c sd t) (xt_gh c r sd t) (xt_tD c r sd lv t) xt_pB := hF
      obtain ⟨m1, m2, m3, m4, g1, g2, g3, g4, g5, g6, g7⟩ := id hMt
      show xt_X E cx (xt_ZM E cx 0 0 (xt_Ep (some (.int (nI (xt_need (xt_tD c r sd lv t) (xt_gw c sd t) (xt_gh c r sd t) (x - (xt_gl c sd t)) (y - (xt_gt c sd t)))))) (xt_mr S 0))) 0 0 76 [some (.ref (E.1 49)), some (.int (nI x)), some (.int (nI y)), some (.int (-1)), none] [] T
      refine xt_iload_n C dX6_needed_76 rfl ?_
      refine xt_if_lt (tgt := 163) C dX6_needed_77 (by decide) (fun c77 => ?_) (fun c77 => ?_)
      · refine xt_aload_n C dX6_needed_163 rfl ?_
        refine xt_get (f := 26) C xt_u6 rfl (by decide) (xt_cl49 _ _) (by decide) lkX6_60 rfl dX6_needed_164 ?_
        refine xt_aload_n C dX6_needed_167 rfl ?_
        refine xt_iload_n C dX6_needed_168 rfl ?_
        refine xt_aload_n C dX6_needed_169 rfl ?_
        refine xt_get (f := 16) C xt_u6 rfl (by decide) (xt_cl49 _ _) (by decide) lkX6_97 (xt_vI m1) dX6_needed_170 ?_
        refine xt_isubN C dX6_needed_173 (by omega) ?_
        refine xt_iload_n C dX6_needed_174 rfl ?_
        refine xt_aload_n C dX6_needed_175 rfl ?_
        refine xt_get (f := 17) C xt_u6 rfl (by decide) (xt_cl49 _ _) (by decide) lkX6_100 (xt_vI m2) dX6_needed_176 ?_
        refine xt_isubN C dX6_needed_179 (by omega) ?_
        refine xt_cV C mv_X6_place lkX6_116 ct_mplace rfl (by decide) (xt_cl49 _ _) rfl (by decide) rfl (Nat.le_of_ble_eq_true rfl) dX6_needed_180 ?_
        refine xt_laldN C (by decide) (xt_cl64 _) (by omega) (by decide) (hT9 _ _ q4 q2) dX6_needed_183 ?_
        refine xt_cS C ms_J13_bitCount_95d88 lkX6_205 ct_bitCount rfl (by decide) rfl (Nat.le_of_ble_eq_true rfl) dX6_needed_184 ?_
        exact xt_iret C dX6_needed_187 ⟨by decide, by decide⟩ ⟨by rw [hF, xt_pn hdl g2 g4 q2 q4], xt_mr_0 hfr⟩
      · exact absurd (by decide) c77
    | succ m ihm =>
      intro hm F hF T hfr hMt hT9
      replace hF : xt_pD (xt_gw c sd t) (xt_gh c r sd t) m (xt_pL (xt_gw c sd t) (xt_gh c r sd t) m F) = xt_pD (xt_gw c sd t) (xt_gh c r sd t) (xt_tD c r sd lv t) xt_pB := hF
      obtain ⟨m1, m2, m3, m4, g1, g2, g3, g4, g5, g6, g7⟩ := id hMt
      have hlw := xt_lo_le (n := (xt_gw c sd t)) (k := m) (by omega)
      have hlh := xt_lo_le (n := (xt_gh c r sd t)) (k := m) (by omega)
      have hlw1 : 1 ≤ (xt_lo (xt_gw c sd t) m) := xt_lo_p (by omega) (by omega)
      have hlh1 : 1 ≤ (xt_lo (xt_gh c r sd t) m) := xt_lo_p (by omega) (by omega)
      show xt_X E cx (xt_ZM E cx 0 0 (xt_Ep (some (.int (nI (xt_need (xt_tD c r sd lv t) (xt_gw c sd t) (xt_gh c r sd t) (x - (xt_gl c sd t)) (y - (xt_gt c sd t)))))) (xt_mr S 0))) 0 0 76 [some (.ref (E.1 49)), some (.int (nI x)), some (.int (nI y)), some (.int (nI m)), none] [] T
      refine xt_iload_n C dX6_needed_76 rfl ?_
      refine xt_if_ltN (tgt := 163) C dX6_needed_77 (by decide) (by omega) ?_
      refine xt_iconst (v := nI 0) C dX6_needed_80 rfl ?_
      refine xt_istore (lo' := [_, _, _, _, _]) C dX6_needed_81 (Nat.le_of_ble_eq_true rfl) rfl rfl ?_
      have loopR : ∀ (dr b : Nat) (T : xt_St), b ≤ (xt_lo (xt_gh c r sd t) m) → (xt_mfr (xt_sN S 49 0 (nI 0)) T) → (xt_Mt T (xt_gl c sd t) (xt_gt c sd t) (xt_gw c sd t) (xt_gh c r sd t) (xt_tD c r sd lv t)) → (∀ y9 x9, y9 < (xt_gh c r sd t) → x9 < (xt_gw c sd t) → T.2.2.1 64 (8 * y9 + x9) = xt_pr9 (xt_pc9 F (xt_lo (xt_gh c r sd t) m) (xt_lo (xt_gw c sd t) m)) (xt_lo (xt_gw c sd t) m) b y9 x9) → (xt_lo (xt_gh c r sd t) m) + 1 ≤ b + dr → xt_X E cx (xt_ZM E cx 0 0 (xt_Ep (some (.int (nI (xt_need (xt_tD c r sd lv t) (xt_gw c sd t) (xt_gh c r sd t) (x - (xt_gl c sd t)) (y - (xt_gt c sd t)))))) (xt_mr S 0))) 0 0 122 [some (.ref (E.1 49)), some (.int (nI x)), some (.int (nI y)), some (.int (nI m)), some (.int (nI b))] [] T := by
        intro dr
        induction dr with
        | zero => intro b T h0b hfr hMt hr9 h1b; exact absurd h1b (by omega)
        | succ dr ihr =>
          intro b T h0b hfr hMt hr9 h1b
          obtain ⟨m1, m2, m3, m4, g1, g2, g3, g4, g5, g6, g7⟩ := id hMt
          refine xt_iload C dX6_needed_122 rfl ?_
          refine xt_aload_n C dX6_needed_124 rfl ?_
          refine xt_get (f := 20) C xt_u6 rfl (by decide) (xt_cl49 _ _) (by decide) lkX6_41 rfl dX6_needed_125 ?_
          refine xt_iload_n C dX6_needed_128 rfl ?_
          refine xt_ialdN C (by decide) (xt_cl58 _) (by omega) (by decide) (m4 m (by omega)).2 dX6_needed_129 ?_
          refine xt_icmp_geN (tgt := 157) C dX6_needed_130 (by decide) (by omega) (by omega) (fun c130 => ?_) (fun c130 => ?_)
          · refine xt_iinc (lo' := [_, _, _, _, _]) C dX6_needed_157 rfl rfl rfl rfl ?_
            refine xt_goto (tgt := 76) C dX6_needed_160 (by decide) ?_
            have hb9 : b = (xt_lo (xt_gh c r sd t) m) := by omega
            subst hb9
            rw [xt_pm_i]
            exact xt_fg (by repeat' constructor) (ihm (by omega) (xt_pL (xt_gw c sd t) (xt_gh c r sd t) m F) hF T hfr hMt (fun y9 x9 h1 h2 => (hr9 y9 x9 h1 h2).trans xt_pc9_e))
          · refine xt_aload_n C dX6_needed_133 rfl ?_
            refine xt_aload_n C dX6_needed_134 rfl ?_
            refine xt_iconst (v := nI 0) C dX6_needed_135 rfl ?_
            refine xt_iload C dX6_needed_136 rfl ?_
            refine xt_cV C mv_X6_place lkX6_116 ct_mplace rfl (by decide) (xt_cl49 _ _) rfl (by decide) rfl (Nat.le_of_ble_eq_true rfl) dX6_needed_138 ?_
            refine xt_iconst (v := nI 1) C dX6_needed_141 rfl ?_
            refine xt_aload_n C dX6_needed_142 rfl ?_
            refine xt_get (f := 19) C xt_u6 rfl (by decide) (xt_cl49 _ _) (by decide) lkX6_38 rfl dX6_needed_143 ?_
            refine xt_iload_n C dX6_needed_146 rfl ?_
            refine xt_ialdN C (by decide) (xt_cl57 _) (by omega) (by decide) (m4 m (by omega)).1 dX6_needed_147 ?_
            refine xt_cVpn C mv_X6_joinsParts lkX6_202 (ct_joinsParts (by decide) (by decide) (by omega) ⟨by omega, by omega⟩ (fun i hi => by omega)) rfl (by decide) (xt_cl49 _ _) rfl (by decide) rfl (Nat.le_of_ble_eq_true rfl) dX6_needed_148 (fun S9 hq9 => ?_)
            obtain ⟨g, f, rfl, hf⟩ := hq9
            have hfr9 := xt_mfr_B (g := f) (i := 64) (Or.inl rfl) (xt_mfr_B (g := g) (i := 65) (Or.inr rfl) hfr)
            have hMt9 := xt_Mt_k (T := xt_sB (xt_sB T 65 g) 64 f) hMt rfl rfl rfl
            refine xt_iincN (z := 1) (lo' := [_, _, _, _, _]) C dX6_needed_151 rfl rfl rfl ?_
            refine xt_goto (tgt := 122) C dX6_needed_154 (by decide) ?_
            exact xt_fg (by repeat' constructor) (ihr (b + 1) _ (by omega) hfr9 hMt9 (by intro y9 x9 h1 h2; rw [xt_sB_s]; exact xt_pr9_s g2 (by omega) (by omega) hf hr9 y9 x9 h1 h2) (by omega))
      have loopC : ∀ (dc a : Nat) (T : xt_St), a ≤ (xt_lo (xt_gw c sd t) m) → (xt_mfr (xt_sN S 49 0 (nI 0)) T) → (xt_Mt T (xt_gl c sd t) (xt_gt c sd t) (xt_gw c sd t) (xt_gh c r sd t) (xt_tD c r sd lv t)) → (∀ y9 x9, y9 < (xt_gh c r sd t) → x9 < (xt_gw c sd t) → T.2.2.1 64 (8 * y9 + x9) = xt_pc9 F (xt_lo (xt_gh c r sd t) m) a y9 x9) → (xt_lo (xt_gw c sd t) m) + 1 ≤ a + dc → xt_X E cx (xt_ZM E cx 0 0 (xt_Ep (some (.int (nI (xt_need (xt_tD c r sd lv t) (xt_gw c sd t) (xt_gh c r sd t) (x - (xt_gl c sd t)) (y - (xt_gt c sd t)))))) (xt_mr S 0))) 0 0 83 [some (.ref (E.1 49)), some (.int (nI x)), some (.int (nI y)), some (.int (nI m)), some (.int (nI a))] [] T := by
        intro dc
        induction dc with
        | zero => intro a T h0a hfr hMt hc9 h1a; exact absurd h1a (by omega)
        | succ dc ihc =>
          intro a T h0a hfr hMt hc9 h1a
          obtain ⟨m1, m2, m3, m4, g1, g2, g3, g4, g5, g6, g7⟩ := id hMt
          refine xt_iload C dX6_needed_83 rfl ?_
          refine xt_aload_n C dX6_needed_85 rfl ?_
          refine xt_get (f := 19) C xt_u6 rfl (by decide) (xt_cl49 _ _) (by decide) lkX6_38 rfl dX6_needed_86 ?_
          refine xt_iload_n C dX6_needed_89 rfl ?_
          refine xt_ialdN C (by decide) (xt_cl57 _) (by omega) (by decide) (m4 m (by omega)).1 dX6_needed_90 ?_
          refine xt_icmp_geN (tgt := 119) C dX6_needed_91 (by decide) (by omega) (by omega) (fun c91 => ?_) (fun c91 => ?_)
          · refine xt_iconst (v := nI 0) C dX6_needed_119 rfl ?_
            refine xt_istore (lo' := [_, _, _, _, _]) C dX6_needed_120 (Nat.le_of_ble_eq_true rfl) rfl rfl ?_
            have ha9 : a = (xt_lo (xt_gw c sd t) m) := by omega
            subst ha9
            exact xt_fg (by repeat' constructor) (loopR ((xt_lo (xt_gh c r sd t) m) + 1) 0 T (by omega) hfr hMt (fun y9 x9 h1 h2 => by rw [hc9 y9 x9 h1 h2]; unfold xt_pr9; rw [if_neg (by omega)]) (by omega))
          · refine xt_aload_n C dX6_needed_94 rfl ?_
            refine xt_aload_n C dX6_needed_95 rfl ?_
            refine xt_iload C dX6_needed_96 rfl ?_
            refine xt_iconst (v := nI 0) C dX6_needed_98 rfl ?_
            refine xt_cV C mv_X6_place lkX6_116 ct_mplace rfl (by decide) (xt_cl49 _ _) rfl (by decide) rfl (Nat.le_of_ble_eq_true rfl) dX6_needed_99 ?_
            refine xt_bipush (v := nI 8) C dX6_needed_102 (by decide) ?_
            refine xt_aload_n C dX6_needed_104 rfl ?_
            refine xt_get (f := 20) C xt_u6 rfl (by decide) (xt_cl49 _ _) (by decide) lkX6_41 rfl dX6_needed_105 ?_
            refine xt_iload_n C dX6_needed_108 rfl ?_
            refine xt_ialdN C (by decide) (xt_cl58 _) (by omega) (by decide) (m4 m (by omega)).2 dX6_needed_109 ?_
            refine xt_cVpn C mv_X6_joinsParts lkX6_202 (ct_joinsParts (by decide) (by decide) (by omega) ⟨by omega, by omega⟩ (fun i hi => by omega)) rfl (by decide) (xt_cl49 _ _) rfl (by decide) rfl (Nat.le_of_ble_eq_true rfl) dX6_needed_110 (fun S9 hq9 => ?_)
            obtain ⟨g, f, rfl, hf⟩ := hq9
            have hfr9 := xt_mfr_B (g := f) (i := 64) (Or.inl rfl) (xt_mfr_B (g := g) (i := 65) (Or.inr rfl) hfr)
            have hMt9 := xt_Mt_k (T := xt_sB (xt_sB T 65 g) 64 f) hMt rfl rfl rfl
            refine xt_iincN (z := 1) (lo' := [_, _, _, _, _]) C dX6_needed_113 rfl rfl rfl ?_
            refine xt_goto (tgt := 83) C dX6_needed_116 (by decide) ?_
            exact xt_fg (by repeat' constructor) (ihc (a + 1) _ (by omega) hfr9 hMt9 (by intro y9 x9 h1 h2; rw [xt_sB_s]; exact xt_pc9_s g2 (by omega) (by omega) hf hc9 y9 x9 h1 h2) (by omega))
      exact xt_fg (by repeat' constructor) (loopC ((xt_lo (xt_gw c sd t) m) + 1) 0 T (by omega) hfr hMt (fun y9 x9 h1 h2 => by rw [hT9 y9 x9 h1 h2]; unfold xt_pc9; rw [if_neg (by omega)]) (by omega))
  refine xt_aload_n C dX6_needed_0 rfl ?_
  refine xt_iconst (v := nI 0) C dX6_needed_1 rfl ?_
  refine xt_put (f := 0) C xt_u6 rfl (by decide) (xt_cl49 _ _) (by decide) tyX6 tyX6_ok nmX6 lkX6_74 rfl (tyX6_ok 0 (by decide)) rfl rfl (Nat.le_of_ble_eq_true rfl) rfl dX6_needed_2 ?_
  refine xt_aload_n C dX6_needed_5 rfl ?_
  refine xt_iload_n C dX6_needed_6 rfl ?_
  refine xt_iload_n C dX6_needed_7 rfl ?_
  refine xt_cV C mv_X6_isPixel lkX6_158 (ct_isPixel (by exact hM9)) rfl (by decide) (xt_cl49 _ _) rfl (by decide) rfl (Nat.le_of_ble_eq_true rfl) dX6_needed_8 ?_
  refine xt_if_neB (tgt := 20) C dX6_needed_11 (by decide) (fun c11 => ?_) (fun c11 => ?_)
  · refine xt_aload_n C dX6_needed_20 rfl ?_
    refine xt_iload_n C dX6_needed_21 rfl ?_
    refine xt_aload_n C dX6_needed_22 rfl ?_
    refine xt_get (f := 1) C xt_u6 rfl (by decide) (xt_cl49 _ _) (by decide) lkX6_9 rfl dX6_needed_23 ?_
    refine xt_iconst (v := nI 2) C dX6_needed_26 rfl ?_
    refine xt_ialdN C (by decide) (xt_cl50 _) (by decide) (by decide) hs dX6_needed_27 ?_
    refine xt_idivN C dX6_needed_28 (by omega) (by omega) (by omega) ?_
    refine xt_aload_n C dX6_needed_29 rfl ?_
    refine xt_cV C mv_X6_across lkX6_88 (ct_macross (by exact hM9)) rfl (by decide) (xt_cl49 _ _) rfl (by decide) rfl (Nat.le_of_ble_eq_true rfl) dX6_needed_30 ?_
    refine xt_imulN C dX6_needed_33 ?_
    refine xt_iload_n C dX6_needed_34 rfl ?_
    refine xt_aload_n C dX6_needed_35 rfl ?_
    refine xt_get (f := 1) C xt_u6 rfl (by decide) (xt_cl49 _ _) (by decide) lkX6_9 rfl dX6_needed_36 ?_
    refine xt_iconst (v := nI 2) C dX6_needed_39 rfl ?_
    refine xt_ialdN C (by decide) (xt_cl50 _) (by decide) (by decide) hs dX6_needed_40 ?_
    refine xt_idivN C dX6_needed_41 (by omega) (by omega) (by omega) ?_
    refine xt_iaddN C dX6_needed_42 ?_
    rw [← et]
    refine xt_cVpn C mv_X6_takes lkX6_112 (ct_takes (by exact hM9) ht) rfl (by decide) (xt_cl49 _ _) rfl (by decide) rfl (Nat.le_of_ble_eq_true rfl) dX6_needed_43 (fun S9 hq9 => ?_)
    obtain ⟨hfr, hMt⟩ := hq9
    rename xt_St => T0
    refine xt_iconst (v := nI 0) C dX6_needed_46 rfl ?_
    refine xt_istore_n (lo' := [_, _, _, _, _]) C dX6_needed_47 (Nat.le_of_ble_eq_true rfl) rfl rfl ?_
    have loop0 : ∀ (d i : Nat) (f : Nat → Int64), i ≤ 64 → (∀ j, j < i → f j = Int64.ofNat (2 ^ j)) → 64 + 1 ≤ i + d → xt_X E cx (xt_ZM E cx 0 0 (xt_Ep (some (.int (nI (xt_need (xt_tD c r sd lv t) (xt_gw c sd t) (xt_gh c r sd t) (x - (xt_gl c sd t)) (y - (xt_gt c sd t)))))) (xt_mr S 0))) 0 0 48 [some (.ref (E.1 49)), some (.int (nI x)), some (.int (nI y)), some (.int (nI i)), none] [] (xt_sB T0 64 f) := by
      intro d
      induction d with
      | zero => intro i f h0i hf0 h1i; exact absurd h1i (by omega)
      | succ d ih =>
        intro i f h0i hf0 h1i
        obtain ⟨m1, m2, m3, m4, g1, g2, g3, g4, g5, g6, g7⟩ := id hMt
        refine xt_iload_n C dX6_needed_48 rfl ?_
        refine xt_bipush (v := nI 64) C dX6_needed_49 (by decide) ?_
        refine xt_icmp_geN (tgt := 69) C dX6_needed_51 (by decide) (by omega) (by omega) (fun c51 => ?_) (fun c51 => ?_)
        · refine xt_aload_n C dX6_needed_69 rfl ?_
          refine xt_get (f := 18) C xt_u6 rfl (by decide) (xt_cl49 _ _) (by decide) lkX6_109 (xt_vI m3) dX6_needed_70 ?_
          refine xt_iconst (v := nI 1) C dX6_needed_73 rfl ?_
          refine xt_isub C dX6_needed_74 ?_
          rw [xt_pm_s]
          refine xt_istore_n (lo' := [_, _, _, _, _]) C dX6_needed_75 (Nat.le_of_ble_eq_true rfl) rfl rfl ?_
          exact xt_fg (by repeat' constructor) (loopJ (xt_tD c r sd lv t) (Nat.le_refl _) xt_pB rfl _ (xt_mfr_B (Or.inl rfl) hfr) (xt_Mt_k hMt rfl rfl rfl) (fun y9 x9 h1 h2 => by rw [xt_sB_s]; exact hf0 _ (by omega)))
        · refine xt_aload_n C dX6_needed_54 rfl ?_
          refine xt_get (f := 26) C xt_u6 rfl (by decide) (xt_cl49 _ _) (by decide) lkX6_60 rfl dX6_needed_55 ?_
          refine xt_iload_n C dX6_needed_58 rfl ?_
          refine xt_lconst C dX6_needed_59 rfl ?_
          refine xt_iload_n C dX6_needed_60 rfl ?_
          refine xt_lshl C dX6_needed_61 rfl ?_
          refine xt_lastN C (by decide) (xt_cl64 _) (by omega) (by decide) dX6_needed_62 ?_
          rw [xt_sB_s, xt_sB_sB]
          refine xt_iincN (z := 1) (lo' := [_, _, _, _, _]) C dX6_needed_63 rfl rfl rfl ?_
          refine xt_goto (tgt := 48) C dX6_needed_66 (by decide) ?_
          exact xt_fg (by repeat' constructor) (ih (i + 1) _ (by omega) (fun j hj => by
            by_cases e9 : j = i
            · rw [e9, xt_uL_s]; exact xt_pB_e (by omega)
            · rw [xt_uL_n e9]; exact hf0 j (by omega)) (by omega))
    have h9 := loop0 (64 + 1) 0 (T0.2.2.1 64) (by omega) (fun j hj => absurd hj (Nat.not_lt_zero _)) (by omega)
    rw [xt_sB_self] at h9
    exact xt_fg (by repeat' constructor) h9
  · exact absurd ⟨⟨x, hx, rfl⟩, y, hy, rfl⟩ c11
set_option maxRecDepth 20000 in
set_option maxHeartbeats 2000000 in
theorem ct_mneeded_b {c r sd lv bo : Nat} (hM : xt_Mp S c r sd lv bo) {x y : Int32} (hbad : ¬ xt_pix c r x y) : xt_Ct E l yX6_needed cX6_needed 5 (some Jvm.ClassFile.FieldType.int) 3 61 0 0 [.ref (E.1 49), .int x, .int y] S (xt_Ep (some (.int (nI 0))) (xt_mr S 1)) := by
  refine xt_body (by decide +kernel) (xt_all rfl) (Nat.le_of_ble_eq_true rfl) (fun cx C hl9 => ?_)
  show xt_X E cx _ 0 0 0 [some (.ref (E.1 49)), some (.int x), some (.int y), none, none] [] S
  have hM9 := hM
  obtain ⟨hc, hr, hs, hv, hb, b1, b2, b3, b4, b5, b6, b7⟩ := hM
  refine xt_aload_n C dX6_needed_0 rfl ?_
  refine xt_iconst (v := nI 0) C dX6_needed_1 rfl ?_
  refine xt_put (f := 0) C xt_u6 rfl (by decide) (xt_cl49 _ _) (by decide) tyX6 tyX6_ok nmX6 lkX6_74 rfl (tyX6_ok 0 (by decide)) rfl rfl (Nat.le_of_ble_eq_true rfl) rfl dX6_needed_2 ?_
  refine xt_aload_n C dX6_needed_5 rfl ?_
  refine xt_iload_n C dX6_needed_6 rfl ?_
  refine xt_iload_n C dX6_needed_7 rfl ?_
  refine xt_cV C mv_X6_isPixel lkX6_158 (ct_isPixel (by exact hM9)) rfl (by decide) (xt_cl49 _ _) rfl (by decide) rfl (Nat.le_of_ble_eq_true rfl) dX6_needed_8 ?_
  refine xt_if_neB (tgt := 20) C dX6_needed_11 (by decide) (fun c11 => ?_) (fun c11 => ?_)
  · exact absurd c11 hbad
  · refine xt_aload_n C dX6_needed_14 rfl ?_
    refine xt_iconst (v := nI 1) C dX6_needed_15 rfl ?_
    refine xt_cV C mv_X6_raises lkX6_142 ct_mraises rfl (by decide) (xt_cl49 _ _) rfl (by decide) rfl (Nat.le_of_ble_eq_true rfl) dX6_needed_16 ?_
    exact xt_iret C dX6_needed_19 ⟨by decide, by decide⟩ ⟨rfl, xt_mr_x xt_mfr_rf⟩
end XM19
