/-! THE TILE: TREES -/
section XC14
variable {E : xt_Ev} {l : Launch} {S : xt_St}
def xt_oI : Option Nat → Int32
  | none => -1
  | some q => nI q
theorem xt_oI_pos {o : Option Nat} (h : ¬ xt_oI o < 0) : ∃ q, o = some q := by
  cases o with
  | none => exact absurd (by decide) h
  | some q => exact ⟨q, rfl⟩
theorem xt_oI_neg {o : Option Nat} (h : xt_oI o < 0) (ho : ∀ q, o = some q → q < 64) : o = none := by
  cases o with
  | none => rfl
  | some q => exact absurd h (nI_pos (by have := ho q rfl; omega))
def xt_in (w h p : Nat) : Prop := p % 8 < w ∧ p / 8 < h
def xt_anc (f : Nat → Option Nat) : Nat → Nat → Option Nat
  | 0, p => some p
  | j + 1, p => (xt_anc f j p).bind f
/-- a tree over the places inside: the rows hold it, it doesn't lead out -/
def xt_tree (w h : Nat) (f : Nat → Option Nat) : Prop := ∀ p q, xt_in w h p → f p = some q → xt_in w h q
theorem xt_anc_in {w h : Nat} {f : Nat → Option Nat} (hf : xt_tree w h f) {p : Nat} (hp : xt_in w h p) : ∀ j q, xt_anc f j p = some q → xt_in w h q := by
  intro j
  induction j with
  | zero => intro q h; cases h; exact hp
  | succ j ih =>
    intro q h9
    cases e : xt_anc f j p with
    | none => rw [xt_anc, e] at h9; cases h9
    | some r => rw [xt_anc, e] at h9; exact hf r q (ih r e) h9
theorem xt_anc_no {f : Nat → Option Nat} {p i : Nat} (h : xt_anc f i p = none) : ∀ j, i ≤ j → xt_anc f j p = none := by
  intro j
  induction j with
  | zero => intro hj; rw [show i = 0 by omega] at h; exact h
  | succ j ih =>
    intro hj
    by_cases e : i = j + 1
    · subst e; exact h
    · rw [xt_anc, ih (by omega)]; rfl
theorem xt_in64 {w h p : Nat} (hw : w ≤ 8) (hh : h ≤ 8) (hp : xt_in w h p) : p < 64 := by unfold xt_in at hp; omega
noncomputable def xt_mu (f : Nat → Option Nat) (s i : Nat) (L : Nat → Int32) : Nat → Int32 := fun p => @ite Int32 (∃ j, j < i ∧ xt_anc f j s = some p) (Classical.propDecidable _) (nI 1) (L p)
theorem xt_mu_0 {f : Nat → Option Nat} {s : Nat} {L : Nat → Int32} : xt_mu f s 0 L = L := by
  funext p; unfold xt_mu; exact if_neg (fun ⟨j, hj, _⟩ => absurd hj (Nat.not_lt_zero _))
theorem xt_mu_s {f : Nat → Option Nat} {s i q : Nat} {L : Nat → Int32} (h : xt_anc f i s = some q) : upd (xt_mu f s i L) q (nI 1) = xt_mu f s (i + 1) L := by
  funext p
  unfold xt_mu
  by_cases e : p = q
  · subst e; rw [xt_up_s, if_pos ⟨i, by omega, h⟩]
  · rw [xt_up_n e]
    by_cases z : ∃ j, j < i ∧ xt_anc f j s = some p
    · obtain ⟨j, z1, z2⟩ := z
      rw [if_pos ⟨j, z1, z2⟩, if_pos ⟨j, by omega, z2⟩]
    · rw [if_neg z, if_neg]
      rintro ⟨j, z1, z2⟩
      rcases Nat.lt_succ_iff_lt_or_eq.mp z1 with g | rfl
      · exact z ⟨j, g, z2⟩
      · rw [h] at z2; exact e (Option.some.inj z2).symm
theorem xt_mu_e {f : Nat → Option Nat} {s i k : Nat} {L : Nat → Int32} (h : xt_anc f i s = none) (hk : i ≤ k) : xt_mu f s i L = xt_mu f s k L := by
  funext p
  unfold xt_mu
  by_cases z : ∃ j, j < i ∧ xt_anc f j s = some p
  · obtain ⟨j, z1, z2⟩ := z
    rw [if_pos ⟨j, z1, z2⟩, if_pos ⟨j, by omega, z2⟩]
  · rw [if_neg z, if_neg]
    rintro ⟨j, z1, z2⟩
    by_cases g : j < i
    · exact z ⟨j, g, z2⟩
    · rw [xt_anc_no h j (by omega)] at z2; cases z2
/-- a place is loud: it, or one below it, isn't less than x -/
def xt_loud (f : Nat → Option Nat) (co : Nat → Int32) (x : Int32) (D : Nat → Nat → Prop) (p : Nat) : Prop := ∃ y x9, D y x9 ∧ ¬ xt_abs (co (8 * y + x9)) < x ∧ ∃ j, j < 4 ∧ xt_anc f j (8 * y + x9) = some p
def xt_root (f : Nat → Option Nat) (Ld : Nat → Prop) (p : Nat) : Prop := ¬ Ld p ∧ (f p = none ∨ ∃ q, f p = some q ∧ Ld q)
def xt_jo (i n : Nat) : Nat := if i / 2 * 2 + 1 < n then 2 else 1
def xt_need (dp w h x y : Nat) : Nat := xt_it (fun l s => s + (xt_jo (x / 2 ^ l) (xt_lo w l) * xt_jo (y / 2 ^ l) (xt_lo h l) - 1)) dp 1
theorem xt_or1 {a : Nat} (h : a < 8) : nI a ||| nI 1 = nI (a / 2 * 2 + 1) := by
  have h9 := co_dec (N := 8) (P := fun a => nI a ||| nI 1 = nI (a / 2 * 2 + 1)) (by decide +kernel) h
  exact h9
set_option maxRecDepth 20000 in
set_option maxHeartbeats 2000000 in
theorem ct_isBelow {lf tp w h dp bo : Nat} (hT : xt_Tn S lf tp w h dp bo) {f : Nat → Option Nat} (hpar : ∀ p, xt_in w h p → S.2.1 37 p = xt_oI (f p)) (hcl : xt_tree w h f) {p a : Nat} (hp : xt_in w h p) (ha : a < 64) : xt_Ct E l yX4_isBelow cX4_isBelow 5 (some Jvm.ClassFile.FieldType.boolean) 1 21 0 0 [.ref (E.1 33), .int (nI p), .int (nI a)] S (xt_Eq (some (.int (xt_b (∃ j, j < 3 ∧ xt_anc f (j + 1) p = some a)))) S) := by
  refine xt_body (by decide +kernel) (xt_all rfl) (Nat.le_of_ble_eq_true rfl) (fun cx C hl9 => ?_)
  show xt_X E cx _ 0 0 0 [some (.ref (E.1 33)), some (.int (nI p)), some (.int (nI a)), none, none] [] S
  have hT9 := hT
  obtain ⟨t0, t1, t2, t3, t4, t5, g1, g2, g3, g4, g5, g6⟩ := hT
  have loop : ∀ (d i : Nat), i ≤ 3 → (∀ j, j < i → xt_anc f (j + 1) p ≠ some a) → 3 + 1 ≤ i + d → xt_X E cx (xt_ZM E cx 0 0 (xt_Eq (some (.int (xt_b (∃ j, j < 3 ∧ xt_anc f (j + 1) p = some a)))) S)) 0 0 12 [some (.ref (E.1 33)), some (.int (nI p)), some (.int (nI a)), some (.int (xt_oI (xt_anc f (i + 1) p))), some (.int (nI i))] [] S := by
    intro d
    induction d with
    | zero => intro i  h0i hno h1i; exact absurd h1i (by omega)
    | succ d ih =>
      intro i  h0i hno h1i
      refine xt_iload C dX4_isBelow_12 rfl ?_
      refine xt_iconst (v := nI 3) C dX4_isBelow_14 rfl ?_
      refine xt_icmp_geN (tgt := 44) C dX4_isBelow_15 (by decide) (by omega) (by omega) (fun c15 => ?_) (fun c15 => ?_)
      · refine xt_iconst (v := nI 0) C dX4_isBelow_44 rfl ?_
        refine xt_zret C dX4_isBelow_45 (by decide) ⟨by decide, by decide⟩ ?_
        refine xt_q0 (fun z => ?_)
        obtain ⟨j, z1, z2⟩ := z
        by_cases g : j < i
        · exact hno j g z2
        · first
          | (exfalso; omega)
          | (have h9 := xt_oI_neg c19 (fun q hq => xt_in64 g1 g2 (xt_anc_in hcl hp _ _ hq))
             rw [xt_anc_no h9 (j + 1) (by omega)] at z2; cases z2)
      · refine xt_iload_n C dX4_isBelow_18 rfl ?_
        refine xt_if_lt (tgt := 44) C dX4_isBelow_19 (by decide) (fun c19 => ?_) (fun c19 => ?_)
        · refine xt_iconst (v := nI 0) C dX4_isBelow_44 rfl ?_
          refine xt_zret C dX4_isBelow_45 (by decide) ⟨by decide, by decide⟩ ?_
          refine xt_q0 (fun z => ?_)
          obtain ⟨j, z1, z2⟩ := z
          by_cases g : j < i
          · exact hno j g z2
          · first
            | (exfalso; omega)
            | (have h9 := xt_oI_neg c19 (fun q hq => xt_in64 g1 g2 (xt_anc_in hcl hp _ _ hq))
               rw [xt_anc_no h9 (j + 1) (by omega)] at z2; cases z2)
        · obtain ⟨q, hq⟩ := xt_oI_pos c19
          have hqin := xt_anc_in hcl hp _ _ hq
          have hq64 := xt_in64 g1 g2 hqin
          rw [hq, show xt_oI (some q) = nI q from rfl]
          refine xt_iload_n C dX4_isBelow_22 rfl ?_
          refine xt_iload_n C dX4_isBelow_23 rfl ?_
          refine xt_icmp_neN (tgt := 29) C dX4_isBelow_24 (by decide) (by omega) (by omega) (fun c24 => ?_) (fun c24 => ?_)
          · refine xt_aload_n C dX4_isBelow_29 rfl ?_
            refine xt_get (f := 9) C xt_u4 rfl (by decide) (xt_cl33 _ _) (by decide) lkX4_21 rfl dX4_isBelow_30 ?_
            refine xt_iload_n C dX4_isBelow_33 rfl ?_
            refine xt_cSN C ms_X5_at lkX4_84 (ct_at (by decide) (xt_cl37 _) (by decide) (xt_in64 g1 g2 hqin) (v := xt_oI (xt_anc f (i + 2) p)) (by rw [hpar _ hqin, xt_anc, hq]; rfl)) rfl (by decide) rfl (Nat.le_of_ble_eq_true rfl) dX4_isBelow_34 ?_
            refine xt_istore_n (lo' := [_, _, _, _, _]) C dX4_isBelow_37 (Nat.le_of_ble_eq_true rfl) rfl rfl ?_
            refine xt_iincN (z := 1) (lo' := [_, _, _, _, _]) C dX4_isBelow_38 rfl rfl rfl ?_
            refine xt_goto (tgt := 12) C dX4_isBelow_41 (by decide) ?_
            exact ih (i + 1) (by omega) (fun j hj => by rcases Nat.lt_succ_iff_lt_or_eq.mp hj with z | rfl; exact hno j z; rw [hq]; exact fun z => c24 (Option.some.inj z)) (by omega)
          · refine xt_iconst (v := nI 1) C dX4_isBelow_27 rfl ?_
            exact xt_zret C dX4_isBelow_28 (by decide) ⟨by decide, by decide⟩ (xt_q1 ⟨i, by omega, by rw [hq, c24]⟩)
  refine xt_aload_n C dX4_isBelow_0 rfl ?_
  refine xt_get (f := 9) C xt_u4 rfl (by decide) (xt_cl33 _ _) (by decide) lkX4_21 rfl dX4_isBelow_1 ?_
  refine xt_iload_n C dX4_isBelow_4 rfl ?_
  refine xt_cSN C ms_X5_at lkX4_84 (ct_at (by decide) (xt_cl37 _) (by decide) (xt_in64 g1 g2 hp) (v := xt_oI (xt_anc f 1 p)) (hpar p hp)) rfl (by decide) rfl (Nat.le_of_ble_eq_true rfl) dX4_isBelow_5 ?_
  refine xt_istore_n (lo' := [_, _, _, _, _]) C dX4_isBelow_8 (Nat.le_of_ble_eq_true rfl) rfl rfl ?_
  refine xt_iconst (v := nI 0) C dX4_isBelow_9 rfl ?_
  refine xt_istore (lo' := [_, _, _, _, _]) C dX4_isBelow_10 (Nat.le_of_ble_eq_true rfl) rfl rfl ?_
  exact loop (3 + 1) 0 (by omega) (fun j hj => absurd hj (Nat.not_lt_zero _)) (by omega)
set_option maxRecDepth 20000 in
set_option maxHeartbeats 2000000 in
theorem ct_countBelow {lf tp w h dp bo : Nat} (hT : xt_Tn S lf tp w h dp bo) {f : Nat → Option Nat} (hpar : ∀ p, xt_in w h p → S.2.1 37 p = xt_oI (f p)) (hcl : xt_tree w h f) {p : Nat} (hp : p < 64) : xt_Ct E l yX4_countBelow cX4_countBelow 5 (some Jvm.ClassFile.FieldType.int) 2 45 0 0 [.ref (E.1 33), .int (nI p)] S (xt_Eq (some (.int (xt_N2 (fun x y => (∃ j, j < 3 ∧ xt_anc f (j + 1) (8 * y + x) = some p)) w h))) S) := by
  refine xt_body (by decide +kernel) (xt_all rfl) (Nat.le_of_ble_eq_true rfl) (fun cx C hl9 => ?_)
  show xt_X E cx _ 0 0 0 [some (.ref (E.1 33)), some (.int (nI p)), none, none, none] [] S
  have hT9 := hT
  obtain ⟨t0, t1, t2, t3, t4, t5, g1, g2, g3, g4, g5, g6⟩ := hT
  have out1 : ∀ (d1 y : Nat), y ≤ h →  h + 1 ≤ y + d1 → xt_X E cx (xt_ZM E cx 0 0 (xt_Eq (some (.int (xt_N2 (fun x y => (∃ j, j < 3 ∧ xt_anc f (j + 1) (8 * y + x) = some p)) w h))) S)) 0 0 4 [some (.ref (E.1 33)), some (.int (nI p)), some (.int (xt_it (fun y s => xt_it (fun x s => xt_ci (∃ j, j < 3 ∧ xt_anc f (j + 1) (8 * y + x) = some p) s) w s) y 0)), some (.int (nI y)), none] [] S := by
    intro d1
    induction d1 with
    | zero => intro y  h0y  h1y; exact absurd h1y (by omega)
    | succ d1 ih1 =>
      intro y  h0y  h1y
      refine xt_iload_n C dX4_countBelow_4 rfl ?_
      refine xt_aload_n C dX4_countBelow_5 rfl ?_
      refine xt_get (f := 3) C xt_u4 rfl (by decide) (xt_cl33 _ _) (by decide) lkX4_61 (xt_vI t3) dX4_countBelow_6 ?_
      refine xt_icmp_geN (tgt := 53) C dX4_countBelow_9 (by decide) (by omega) (by omega) (fun c9 => ?_) (fun c9 => ?_)
      · refine xt_iload_n C dX4_countBelow_53 rfl ?_
        exact xt_iret C dX4_countBelow_54 ⟨by decide, by decide⟩ (xt_qI (by rw [show y = h by omega]; rfl))
      · refine xt_iconst (v := nI 0) C dX4_countBelow_12 rfl ?_
        refine xt_istore (lo' := [_, _, _, _, _]) C dX4_countBelow_13 (Nat.le_of_ble_eq_true rfl) rfl rfl ?_
        have in2 : ∀ (d2 x : Nat), x ≤ w →  w + 1 ≤ x + d2 → xt_X E cx (xt_ZM E cx 0 0 (xt_Eq (some (.int (xt_N2 (fun x y => (∃ j, j < 3 ∧ xt_anc f (j + 1) (8 * y + x) = some p)) w h))) S)) 0 0 15 [some (.ref (E.1 33)), some (.int (nI p)), some (.int (xt_it (fun x s => xt_ci (∃ j, j < 3 ∧ xt_anc f (j + 1) (8 * y + x) = some p) s) x (xt_it (fun y s => xt_it (fun x s => xt_ci (∃ j, j < 3 ∧ xt_anc f (j + 1) (8 * y + x) = some p) s) w s) y 0))), some (.int (nI y)), some (.int (nI x))] [] S := by
          intro d2
          induction d2 with
          | zero => intro x  h0x  h1x; exact absurd h1x (by omega)
          | succ d2 ih2 =>
            intro x  h0x  h1x
            refine xt_iload C dX4_countBelow_15 rfl ?_
            refine xt_aload_n C dX4_countBelow_17 rfl ?_
            refine xt_get (f := 2) C xt_u4 rfl (by decide) (xt_cl33 _ _) (by decide) lkX4_55 (xt_vI t2) dX4_countBelow_18 ?_
            refine xt_icmp_geN (tgt := 47) C dX4_countBelow_21 (by decide) (by omega) (by omega) (fun c21 => ?_) (fun c21 => ?_)
            · refine xt_iincN (z := 1) (lo' := [_, _, _, _, _]) C dX4_countBelow_47 rfl rfl rfl ?_
              refine xt_goto (tgt := 4) C dX4_countBelow_50 (by decide) ?_
              have hx9 : x = w := by omega
              subst hx9
              exact xt_fg (by repeat' constructor) (ih1 (y + 1) (by omega)  (by omega))
            · refine xt_aload_n C dX4_countBelow_24 rfl ?_
              refine xt_iload C dX4_countBelow_25 rfl ?_
              refine xt_iload_n C dX4_countBelow_27 rfl ?_
              refine xt_cSN C ms_X5_placeOf lkX4_88 ct_place rfl (by decide) rfl (Nat.le_of_ble_eq_true rfl) dX4_countBelow_28 ?_
              refine xt_iload_n C dX4_countBelow_31 rfl ?_
              refine xt_cV C mv_X4_isBelow lkX4_148 (ct_isBelow (by exact hT9) hpar hcl (show xt_in w h (8 * y + x) from ⟨by omega, by omega⟩) hp) rfl (by decide) (xt_cl33 _ _) rfl (by decide) rfl (Nat.le_of_ble_eq_true rfl) dX4_countBelow_32 ?_
              refine xt_if_eqB (tgt := 41) C dX4_countBelow_35 (by decide) (fun c35 => ?_) (fun c35 => ?_)
              · refine xt_iincN (z := 1) (lo' := [_, _, _, _, _]) C dX4_countBelow_41 rfl rfl rfl ?_
                refine xt_goto (tgt := 15) C dX4_countBelow_44 (by decide) ?_
                have h9 := ih2 (x + 1) (by omega)  (by omega)
                rw [show xt_it (fun x s => xt_ci (∃ j, j < 3 ∧ xt_anc f (j + 1) (8 * y + x) = some p) s) (x + 1) (xt_it (fun y s => xt_it (fun x s => xt_ci (∃ j, j < 3 ∧ xt_anc f (j + 1) (8 * y + x) = some p) s) w s) y 0) = xt_ci (∃ j, j < 3 ∧ xt_anc f (j + 1) (8 * y + x) = some p) (xt_it (fun x s => xt_ci (∃ j, j < 3 ∧ xt_anc f (j + 1) (8 * y + x) = some p) s) x (xt_it (fun y s => xt_it (fun x s => xt_ci (∃ j, j < 3 ∧ xt_anc f (j + 1) (8 * y + x) = some p) s) w s) y 0)) from rfl] at h9
                first
                | rw [xt_ci1 c35] at h9
                | rw [xt_ci0 c35] at h9
                exact xt_fg (by repeat' constructor) h9
              · refine xt_iinc (lo' := [_, _, _, _, _]) C dX4_countBelow_38 rfl rfl rfl rfl ?_
                refine xt_iincN (z := 1) (lo' := [_, _, _, _, _]) C dX4_countBelow_41 rfl rfl rfl ?_
                refine xt_goto (tgt := 15) C dX4_countBelow_44 (by decide) ?_
                have h9 := ih2 (x + 1) (by omega)  (by omega)
                rw [show xt_it (fun x s => xt_ci (∃ j, j < 3 ∧ xt_anc f (j + 1) (8 * y + x) = some p) s) (x + 1) (xt_it (fun y s => xt_it (fun x s => xt_ci (∃ j, j < 3 ∧ xt_anc f (j + 1) (8 * y + x) = some p) s) w s) y 0) = xt_ci (∃ j, j < 3 ∧ xt_anc f (j + 1) (8 * y + x) = some p) (xt_it (fun x s => xt_ci (∃ j, j < 3 ∧ xt_anc f (j + 1) (8 * y + x) = some p) s) x (xt_it (fun y s => xt_it (fun x s => xt_ci (∃ j, j < 3 ∧ xt_anc f (j + 1) (8 * y + x) = some p) s) w s) y 0)) from rfl] at h9
                first
                | rw [xt_ci1 c35] at h9
                | rw [xt_ci0 c35] at h9
                exact xt_fg (by repeat' constructor) h9
        exact xt_fg (by repeat' constructor) (in2 (w + 1) 0 (by omega)  (by omega))
  refine xt_iconst (v := nI 0) C dX4_countBelow_0 rfl ?_
  refine xt_istore_n (lo' := [_, _, _, _, _]) C dX4_countBelow_1 (Nat.le_of_ble_eq_true rfl) rfl rfl ?_
  refine xt_iconst (v := nI 0) C dX4_countBelow_2 rfl ?_
  refine xt_istore_n (lo' := [_, _, _, _, _]) C dX4_countBelow_3 (Nat.le_of_ble_eq_true rfl) rfl rfl ?_
  exact xt_fg (by repeat' constructor) (out1 (h + 1) 0 (by omega) (by omega))
set_option maxRecDepth 20000 in
set_option maxHeartbeats 2000000 in
theorem ct_markUp {lf tp w h dp bo : Nat} (hT : xt_Tn S lf tp w h dp bo) {f : Nat → Option Nat} (hpar : ∀ p, xt_in w h p → S.2.1 37 p = xt_oI (f p)) (hcl : xt_tree w h f) {p : Nat} (hp : xt_in w h p) : xt_Ct E l yX4_markUpwards cX4_markUpwards 4 none 1 22 0 0 [.ref (E.1 33), .int (nI p)] S (xt_Eq none (xt_sA S 39 (xt_mu f p 4 (S.2.1 39)))) := by
  refine xt_body (by decide +kernel) (xt_all rfl) (Nat.le_of_ble_eq_true rfl) (fun cx C hl9 => ?_)
  show xt_X E cx _ 0 0 0 [some (.ref (E.1 33)), some (.int (nI p)), none, none] [] S
  have hT9 := hT
  obtain ⟨t0, t1, t2, t3, t4, t5, g1, g2, g3, g4, g5, g6⟩ := hT
  have loop : ∀ (d i : Nat), i ≤ 4 →  4 + 1 ≤ i + d → xt_X E cx (xt_ZM E cx 0 0 (xt_Eq none (xt_sA S 39 (xt_mu f p 4 (S.2.1 39))))) 0 0 4 [some (.ref (E.1 33)), some (.int (nI p)), some (.int (xt_oI (xt_anc f i p))), some (.int (nI i))] [] (xt_sA S 39 (xt_mu f p i (S.2.1 39))) := by
    intro d
    induction d with
    | zero => intro i  h0i  h1i; exact absurd h1i (by omega)
    | succ d ih =>
      intro i  h0i  h1i
      refine xt_iload_n C dX4_markUpwards_4 rfl ?_
      refine xt_iconst (v := nI 3) C dX4_markUpwards_5 rfl ?_
      refine xt_icmp_gtN (tgt := 37) C dX4_markUpwards_6 (by decide) (by omega) (by omega) (fun c6 => ?_) (fun c6 => ?_)
      · refine xt_vret C dX4_markUpwards_37 ⟨by decide, by decide⟩ ?_
        first
        | (rw [show i = 4 by omega]; exact ⟨rfl, rfl⟩)
        | (have h9 := xt_oI_neg c10 (fun q hq => xt_in64 g1 g2 (xt_anc_in hcl hp _ _ hq))
           rw [xt_mu_e h9 (show i ≤ 4 by omega)]; exact ⟨rfl, rfl⟩)
      · refine xt_iload_n C dX4_markUpwards_9 rfl ?_
        refine xt_if_lt (tgt := 37) C dX4_markUpwards_10 (by decide) (fun c10 => ?_) (fun c10 => ?_)
        · refine xt_vret C dX4_markUpwards_37 ⟨by decide, by decide⟩ ?_
          first
          | (rw [show i = 4 by omega]; exact ⟨rfl, rfl⟩)
          | (have h9 := xt_oI_neg c10 (fun q hq => xt_in64 g1 g2 (xt_anc_in hcl hp _ _ hq))
             rw [xt_mu_e h9 (show i ≤ 4 by omega)]; exact ⟨rfl, rfl⟩)
        · obtain ⟨q, hq⟩ := xt_oI_pos c10
          have hqin := xt_anc_in hcl hp _ _ hq
          have hq64 := xt_in64 g1 g2 hqin
          rw [hq, show xt_oI (some q) = nI q from rfl]
          refine xt_aload_n C dX4_markUpwards_13 rfl ?_
          refine xt_get (f := 11) C xt_u4 rfl (by decide) (xt_cl33 _ _) (by decide) lkX4_27 rfl dX4_markUpwards_14 ?_
          refine xt_iload_n C dX4_markUpwards_17 rfl ?_
          refine xt_iconst (v := nI 1) C dX4_markUpwards_18 rfl ?_
          refine xt_cSNn C ms_X5_put lkX4_91 (ct_put (by decide) (xt_cl39 _) (by decide) hq64) rfl (by decide) rfl (Nat.le_of_ble_eq_true rfl) dX4_markUpwards_19 ?_
          refine xt_aload_n C dX4_markUpwards_22 rfl ?_
          refine xt_get (f := 9) C xt_u4 rfl (by decide) (xt_cl33 _ _) (by decide) lkX4_21 rfl dX4_markUpwards_23 ?_
          refine xt_iload_n C dX4_markUpwards_26 rfl ?_
          refine xt_cSN C ms_X5_at lkX4_84 (ct_at (by decide) (xt_cl37 _) (by decide) hq64 (v := xt_oI (xt_anc f (i + 1) p)) (by rw [xt_sA_n (by decide), xt_sA_n (by decide), hpar _ hqin, xt_anc, hq]; rfl)) rfl (by decide) rfl (Nat.le_of_ble_eq_true rfl) dX4_markUpwards_27 ?_
          refine xt_istore_n (lo' := [_, _, _, _]) C dX4_markUpwards_30 (Nat.le_of_ble_eq_true rfl) rfl rfl ?_
          refine xt_iincN (z := 1) (lo' := [_, _, _, _]) C dX4_markUpwards_31 rfl rfl rfl ?_
          refine xt_goto (tgt := 4) C dX4_markUpwards_34 (by decide) ?_
          rw [xt_sA_s, xt_sA_sA, xt_mu_s hq]
          exact ih (i + 1) (by omega) (by omega)
  refine xt_iload_n C dX4_markUpwards_0 rfl ?_
  refine xt_istore_n (lo' := [_, _, _, _]) C dX4_markUpwards_1 (Nat.le_of_ble_eq_true rfl) rfl rfl ?_
  refine xt_iconst (v := nI 0) C dX4_markUpwards_2 rfl ?_
  refine xt_istore_n (lo' := [_, _, _, _]) C dX4_markUpwards_3 (Nat.le_of_ble_eq_true rfl) rfl rfl ?_
  have h9 := loop (4 + 1) 0 (by omega) (by omega)
  rw [xt_mu_0, xt_sA_self] at h9
  exact h9
theorem xt_loud_c {f : Nat → Option Nat} {co : Nat → Int32} {x : Int32} {D D' : Nat → Nat → Prop} {p : Nat} (h : ∀ y x9, D y x9 ↔ D' y x9) : xt_loud f co x D p ↔ xt_loud f co x D' p := by
  unfold xt_loud
  constructor
  · rintro ⟨y, x9, z, r⟩; exact ⟨y, x9, (h y x9).mp z, r⟩
  · rintro ⟨y, x9, z, r⟩; exact ⟨y, x9, (h y x9).mpr z, r⟩
/-- one place more is looked at: not loud; loud -/
theorem xt_loud_n {f : Nat → Option Nat} {co : Nat → Int32} {x : Int32} {D D' : Nat → Nat → Prop} {p y x9 : Nat} (h : ∀ a b, D' a b ↔ (D a b ∨ (a = y ∧ b = x9))) (hn : xt_abs (co (8 * y + x9)) < x) : xt_loud f co x D' p ↔ xt_loud f co x D p := by
  unfold xt_loud
  constructor
  · rintro ⟨a, b, z, r1, r2⟩
    rcases (h a b).mp z with z | ⟨rfl, rfl⟩
    · exact ⟨a, b, z, r1, r2⟩
    · exact absurd hn r1
  · rintro ⟨a, b, z, r⟩; exact ⟨a, b, (h a b).mpr (Or.inl z), r⟩
theorem xt_loud_y {f : Nat → Option Nat} {co : Nat → Int32} {x : Int32} {D D' : Nat → Nat → Prop} {y x9 : Nat} {g : Nat → Int32} (h : ∀ a b, D' a b ↔ (D a b ∨ (a = y ∧ b = x9))) (hn : ¬ xt_abs (co (8 * y + x9)) < x) (hg : ∀ p, p < 64 → g p = xt_b (xt_loud f co x D p)) : ∀ p, p < 64 → xt_mu f (8 * y + x9) 4 g p = xt_b (xt_loud f co x D' p) := by
  intro p hp
  unfold xt_mu
  by_cases z : ∃ j, j < 4 ∧ xt_anc f j (8 * y + x9) = some p
  · rw [if_pos z]
    exact (xt_b1 (show xt_loud f co x D' p from ⟨y, x9, (h y x9).mpr (Or.inr ⟨rfl, rfl⟩), hn, z⟩)).symm
  · rw [if_neg z, hg p hp]
    refine xt_bc ?_
    unfold xt_loud
    constructor
    · rintro ⟨a, b, r, s⟩; exact ⟨a, b, (h a b).mpr (Or.inl r), s⟩
    · rintro ⟨a, b, r, s1, s2⟩
      rcases (h a b).mp r with r | ⟨rfl, rfl⟩
      · exact ⟨a, b, r, s1, s2⟩
      · exact absurd s2 z
set_option maxRecDepth 20000 in
set_option maxHeartbeats 2000000 in
theorem ct_markLoud {lf tp w h dp bo : Nat} (hT : xt_Tn S lf tp w h dp bo) {f : Nat → Option Nat} (hpar : ∀ p, xt_in w h p → S.2.1 37 p = xt_oI (f p)) (hcl : xt_tree w h f) {lv : Int32} : xt_Ct E l yX4_markLoud cX4_markLoud 5 none 2 45 0 0 [.ref (E.1 33), .int lv] S (xt_Ep none (fun S9 => ∃ g9, S9 = xt_sA S 39 g9 ∧ ∀ p, p < 64 → g9 p = xt_b (xt_loud f (S.2.1 35) lv (fun y9 x9 => y9 < h ∧ x9 < w) p))) := by
  refine xt_body (by decide +kernel) (xt_all rfl) (Nat.le_of_ble_eq_true rfl) (fun cx C hl9 => ?_)
  show xt_X E cx _ 0 0 0 [some (.ref (E.1 33)), some (.int lv), none, none, none] [] S
  have hT9 := hT
  obtain ⟨t0, t1, t2, t3, t4, t5, g1, g2, g3, g4, g5, g6⟩ := hT
  have out1 : ∀ (d1 y : Nat) (g : Nat → Int32), y ≤ h → (∀ p, p < 64 → g p = xt_b (xt_loud f (S.2.1 35) lv (fun y9 x9 => y9 < h ∧ x9 < w ∧ (y9 < y ∨ (y9 = y ∧ x9 < 0))) p)) → h + 1 ≤ y + d1 → xt_X E cx (xt_ZM E cx 0 0 (xt_Ep none (fun S9 => ∃ g9, S9 = xt_sA S 39 g9 ∧ ∀ p, p < 64 → g9 p = xt_b (xt_loud f (S.2.1 35) lv (fun y9 x9 => y9 < h ∧ x9 < w) p)))) 0 0 25 [some (.ref (E.1 33)), some (.int lv), some (.int (nI y)), none, none] [] (xt_sA S 39 g) := by
    intro d1
    induction d1 with
    | zero => intro y g h0y hg h1y; exact absurd h1y (by omega)
    | succ d1 ih1 =>
      intro y g h0y hg h1y
      refine xt_iload_n C dX4_markLoud_25 rfl ?_
      refine xt_aload_n C dX4_markLoud_26 rfl ?_
      refine xt_get (f := 3) C xt_u4 rfl (by decide) (xt_cl33 _ _) (by decide) lkX4_61 (xt_vI t3) dX4_markLoud_27 ?_
      refine xt_icmp_geN (tgt := 84) C dX4_markLoud_30 (by decide) (by omega) (by omega) (fun c30 => ?_) (fun c30 => ?_)
      · exact xt_vret C dX4_markLoud_84 ⟨by decide, by decide⟩ ⟨rfl, g, rfl, fun p hp => by rw [hg p hp]; exact xt_bc (xt_loud_c (fun y9 x9 => by omega))⟩
      · refine xt_iconst (v := nI 0) C dX4_markLoud_33 rfl ?_
        refine xt_istore_n (lo' := [_, _, _, _, _]) C dX4_markLoud_34 (Nat.le_of_ble_eq_true rfl) rfl rfl ?_
        have in2 : ∀ (d2 x : Nat) (g : Nat → Int32), x ≤ w → (∀ p, p < 64 → g p = xt_b (xt_loud f (S.2.1 35) lv (fun y9 x9 => y9 < h ∧ x9 < w ∧ (y9 < y ∨ (y9 = y ∧ x9 < x))) p)) → w + 1 ≤ x + d2 → xt_X E cx (xt_ZM E cx 0 0 (xt_Ep none (fun S9 => ∃ g9, S9 = xt_sA S 39 g9 ∧ ∀ p, p < 64 → g9 p = xt_b (xt_loud f (S.2.1 35) lv (fun y9 x9 => y9 < h ∧ x9 < w) p)))) 0 0 35 [some (.ref (E.1 33)), some (.int lv), some (.int (nI y)), some (.int (nI x)), none] [] (xt_sA S 39 g) := by
          intro d2
          induction d2 with
          | zero => intro x g h0x hg h1x; exact absurd h1x (by omega)
          | succ d2 ih2 =>
            intro x g h0x hg h1x
            refine xt_iload_n C dX4_markLoud_35 rfl ?_
            refine xt_aload_n C dX4_markLoud_36 rfl ?_
            refine xt_get (f := 2) C xt_u4 rfl (by decide) (xt_cl33 _ _) (by decide) lkX4_55 (xt_vI t2) dX4_markLoud_37 ?_
            refine xt_icmp_geN (tgt := 78) C dX4_markLoud_40 (by decide) (by omega) (by omega) (fun c40 => ?_) (fun c40 => ?_)
            · refine xt_iincN (z := 1) (lo' := [_, _, _, _, _]) C dX4_markLoud_78 rfl rfl rfl ?_
              refine xt_goto (tgt := 25) C dX4_markLoud_81 (by decide) ?_
              exact xt_fg (by repeat' constructor) (ih1 (y + 1) g (by omega) (fun p hp => by rw [hg p hp]; exact xt_bc (xt_loud_c (fun a b => by omega))) (by omega))
            · refine xt_iload_n C dX4_markLoud_43 rfl ?_
              refine xt_iload_n C dX4_markLoud_44 rfl ?_
              refine xt_cSN C ms_X5_placeOf lkX4_88 ct_place rfl (by decide) rfl (Nat.le_of_ble_eq_true rfl) dX4_markLoud_45 ?_
              refine xt_istore (lo' := [_, _, _, _, _]) C dX4_markLoud_48 (Nat.le_of_ble_eq_true rfl) rfl rfl ?_
              refine xt_aload_n C dX4_markLoud_50 rfl ?_
              refine xt_get (f := 7) C xt_u4 rfl (by decide) (xt_cl33 _ _) (by decide) lkX4_15 rfl dX4_markLoud_51 ?_
              refine xt_iload C dX4_markLoud_54 rfl ?_
              refine xt_cSN C ms_X5_at lkX4_84 (ct_at (by decide) (xt_cl35 _) (by decide) (by omega) (v := S.2.1 35 (8 * y + x)) rfl) rfl (by decide) rfl (Nat.le_of_ble_eq_true rfl) dX4_markLoud_56 ?_
              refine xt_cSN C ms_X5_amountOf lkX4_145 ct_amount rfl (by decide) rfl (Nat.le_of_ble_eq_true rfl) dX4_markLoud_59 ?_
              refine xt_iload_n C dX4_markLoud_62 rfl ?_
              refine xt_icmp_lt (tgt := 72) C dX4_markLoud_63 (by decide) (fun c63 => ?_) (fun c63 => ?_)
              · refine xt_iincN (z := 1) (lo' := [_, _, _, _, _]) C dX4_markLoud_72 rfl rfl rfl ?_
                refine xt_goto (tgt := 35) C dX4_markLoud_75 (by decide) ?_
                exact xt_fg (by repeat' constructor) (ih2 (x + 1) g (by omega) (fun p hp => by rw [hg p hp]; exact xt_bc (xt_loud_n (y := y) (x9 := x) (fun a b => by omega) c63).symm) (by omega))
              · refine xt_aload_n C dX4_markLoud_66 rfl ?_
                refine xt_iload C dX4_markLoud_67 rfl ?_
                refine xt_cVn C mv_X4_markUpwards lkX4_156 (ct_markUp (by exact hT9) (by exact hpar) hcl (show xt_in w h (8 * y + x) from ⟨by omega, by omega⟩)) rfl (by decide) (xt_cl33 _ _) rfl (by decide) rfl (Nat.le_of_ble_eq_true rfl) dX4_markLoud_69 ?_
                refine xt_iincN (z := 1) (lo' := [_, _, _, _, _]) C dX4_markLoud_72 rfl rfl rfl ?_
                refine xt_goto (tgt := 35) C dX4_markLoud_75 (by decide) ?_
                rw [xt_sA_s, xt_sA_sA]
                exact xt_fg (by repeat' constructor) (ih2 (x + 1) _ (by omega) (xt_loud_y (y := y) (x9 := x) (fun a b => by omega) c63 hg) (by omega))
        exact xt_fg (by repeat' constructor) (in2 (w + 1) 0 g (by omega) hg (by omega))
  have zero : ∀ (d0 i : Nat) (g : Nat → Int32), i ≤ 64 → (∀ p, p < i → g p = nI 0) → 64 + 1 ≤ i + d0 → xt_X E cx (xt_ZM E cx 0 0 (xt_Ep none (fun S9 => ∃ g9, S9 = xt_sA S 39 g9 ∧ ∀ p, p < 64 → g9 p = xt_b (xt_loud f (S.2.1 35) lv (fun y9 x9 => y9 < h ∧ x9 < w) p)))) 0 0 2 [some (.ref (E.1 33)), some (.int lv), some (.int (nI i)), none, none] [] (xt_sA S 39 g) := by
    intro d0
    induction d0 with
    | zero => intro i g h0i hz h1i; exact absurd h1i (by omega)
    | succ d0 ih0 =>
      intro i g h0i hz h1i
      refine xt_iload_n C dX4_markLoud_2 rfl ?_
      refine xt_bipush (v := nI 64) C dX4_markLoud_3 (by decide) ?_
      refine xt_icmp_geN (tgt := 23) C dX4_markLoud_5 (by decide) (by omega) (by omega) (fun c5 => ?_) (fun c5 => ?_)
      · refine xt_iconst (v := nI 0) C dX4_markLoud_23 rfl ?_
        refine xt_istore_n (lo' := [_, _, _, _, _]) C dX4_markLoud_24 (Nat.le_of_ble_eq_true rfl) rfl rfl ?_
        exact xt_fg (by repeat' constructor) (out1 (h + 1) 0 g (by omega) (fun p hp => by rw [hz p (by omega)]; exact (xt_b0 (fun ⟨a, b, z, _⟩ => by omega)).symm) (by omega))
      · refine xt_aload_n C dX4_markLoud_8 rfl ?_
        refine xt_get (f := 11) C xt_u4 rfl (by decide) (xt_cl33 _ _) (by decide) lkX4_27 rfl dX4_markLoud_9 ?_
        refine xt_iload_n C dX4_markLoud_12 rfl ?_
        refine xt_iconst (v := nI 0) C dX4_markLoud_13 rfl ?_
        refine xt_cSNn C ms_X5_put lkX4_91 (ct_put (by decide) (xt_cl39 _) (by decide) (by omega)) rfl (by decide) rfl (Nat.le_of_ble_eq_true rfl) dX4_markLoud_14 ?_
        refine xt_iincN (z := 1) (lo' := [_, _, _, _, _]) C dX4_markLoud_17 rfl rfl rfl ?_
        refine xt_goto (tgt := 2) C dX4_markLoud_20 (by decide) ?_
        rw [xt_sA_s, xt_sA_sA]
        exact ih0 (i + 1) _ (by omega) (fun p hp => by by_cases z : p = i; subst z; exact xt_up_s; rw [xt_up_n z]; exact hz p (by omega)) (by omega)
  refine xt_iconst (v := nI 0) C dX4_markLoud_0 rfl ?_
  refine xt_istore_n (lo' := [_, _, _, _, _]) C dX4_markLoud_1 (Nat.le_of_ble_eq_true rfl) rfl rfl ?_
  have h9 := zero (64 + 1) 0 (S.2.1 39) (by omega) (fun p hp => absurd hp (Nat.not_lt_zero _)) (by omega)
  rw [xt_sA_self] at h9
  exact xt_fg (by repeat' constructor) h9
end XC14
