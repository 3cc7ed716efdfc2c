/-! THE MODEL: what changes: the history, rows of now -/
section XM13
variable {E : xt_Ev} {l : Launch} {S : xt_St}
/-- kept, with now behind the changes that are kept -/
def xt_hs (S : xt_St) (kp : Nat) : Nat → Int32 := if kp = 8 then (fun j => if j < 3619 then S.2.1 51 (517 + j) else S.2.1 51 j) else S.2.1 51
def xt_hn (n g : Nat → Int32) (kq i : Nat) : Nat → Int32 := fun j => if 517 * kq ≤ j ∧ j < 517 * kq + i then n (j - 517 * kq) else g j
def xt_hk (S : xt_St) (kp : Nat) : Nat → Int32 := xt_hn (S.2.1 50) (xt_hs S kp) (min kp 7) 517
def xt_chg (S : xt_St) (kp : Nat) : xt_St := xt_sN (xt_sA S 51 (xt_hk S kp)) 49 3 (nI (min (kp + 1) 8))
def xt_shf (f : Nat → Int32) (i : Nat) : Nat → Int32 := fun j => if j < i then f (517 + j) else f j
theorem xt_shf_s {f : Nat → Int32} {i : Nat} : upd (xt_shf f i) i (f (517 + i)) = xt_shf f (i + 1) := by
  funext j
  unfold xt_shf
  by_cases e : j = i
  · rw [e, xt_up_s, if_pos (by omega)]
  · rw [xt_up_n e]
    by_cases z : j < i
    · rw [if_pos z, if_pos (by omega)]
    · rw [if_neg z, if_neg (by omega)]
theorem xt_hn_s {n g : Nat → Int32} {kq i : Nat} : upd (xt_hn n g kq i) (517 * kq + i) (n i) = xt_hn n g kq (i + 1) := by
  funext j
  unfold xt_hn
  by_cases e : j = 517 * kq + i
  · rw [e, xt_up_s, if_pos (by omega), show 517 * kq + i - 517 * kq = i by omega]
  · rw [xt_up_n e]
    by_cases z : 517 * kq ≤ j ∧ j < 517 * kq + i
    · rw [if_pos z, if_pos (by omega)]
    · rw [if_neg z, if_neg (by omega)]
theorem xt_hn_0 {n g : Nat → Int32} {kq : Nat} : xt_hn n g kq 0 = g := by
  funext j
  unfold xt_hn
  rw [if_neg (by omega)]
theorem xt_sNA {S : xt_St} {i f a : Nat} {v : Int32} {g : Nat → Int32} : xt_sA (xt_sN S i f v) a g = xt_sN (xt_sA S a g) i f v := rfl
set_option maxRecDepth 20000 in
set_option maxHeartbeats 2000000 in
theorem ct_changes {kp : Nat} (hu : S.1 49 3 = nI kp) (hk8 : kp ≤ 8) : xt_Ct E l yX6_changes cX6_changes 2 none 0 0 0 0 [.ref (E.1 49)] S (xt_Eq none (xt_chg S kp)) := by
  refine xt_body (by decide +kernel) (xt_all rfl) (Nat.le_of_ble_eq_true rfl) (fun cx C hl9 => ?_)
  show xt_X E cx _ 0 0 0 [some (.ref (E.1 49)), none] [] S
  have second : ∀ (T : xt_St) (kq : Nat), kq ≤ 7 → T.1 49 3 = nI kq → xt_sN (xt_sA T 51 (xt_hn (T.2.1 50) (T.2.1 51) kq 517)) 49 3 (nI (kq + 1)) = xt_chg S kp → xt_X E cx (xt_ZM E cx 0 0 (xt_Eq none (xt_chg S kp))) 0 0 52 [some (.ref (E.1 49)), some (.int (nI 0))] [] T := by
    intro T kq hk7 hkq hE
    have loop2 : ∀ (d i : Nat), i ≤ 517 →  517 + 1 ≤ i + d → xt_X E cx (xt_ZM E cx 0 0 (xt_Eq none (xt_chg S kp))) 0 0 52 [some (.ref (E.1 49)), some (.int (nI i))] [] (xt_sA T 51 (xt_hn (T.2.1 50) (T.2.1 51) kq i)) := by
      intro d
      induction d with
      | zero => intro i  h0i  h1i; exact absurd h1i (by omega)
      | succ d ih =>
        intro i  h0i  h1i
        refine xt_iload_n C dX6_changes_52 rfl ?_
        refine xt_sipush (v := nI 517) C dX6_changes_53 (by decide) ?_
        refine xt_icmp_geN (tgt := 86) C dX6_changes_56 (by decide) (by omega) (by omega) (fun c56 => ?_) (fun c56 => ?_)
        · refine xt_aload_n C dX6_changes_86 rfl ?_
          refine xt_dup C dX6_changes_87 rfl ?_
          refine xt_get (f := 3) C xt_u6 rfl (by decide) (xt_cl49 _ _) (by decide) lkX6_94 (xt_vI (by exact hkq)) dX6_changes_88 ?_
          refine xt_iconst (v := nI 1) C dX6_changes_91 rfl ?_
          refine xt_iaddN C dX6_changes_92 ?_
          refine xt_put (f := 3) C xt_u6 rfl (by decide) (xt_cl49 _ _) (by decide) tyX6 tyX6_ok nmX6 lkX6_94 rfl (tyX6_ok 3 (by decide)) rfl rfl (Nat.le_of_ble_eq_true rfl) rfl dX6_changes_93 ?_
          refine xt_vret C dX6_changes_96 ⟨by decide, by decide⟩ ?_
          rw [show i = 517 by omega, hE]
          exact ⟨rfl, rfl⟩
        · refine xt_aload_n C dX6_changes_59 rfl ?_
          refine xt_get (f := 2) C xt_u6 rfl (by decide) (xt_cl49 _ _) (by decide) lkX6_13 rfl dX6_changes_60 ?_
          refine xt_sipush (v := nI 517) C dX6_changes_63 (by decide) ?_
          refine xt_aload_n C dX6_changes_66 rfl ?_
          refine xt_get (f := 3) C xt_u6 rfl (by decide) (xt_cl49 _ _) (by decide) lkX6_94 (xt_vI (by exact hkq)) dX6_changes_67 ?_
          refine xt_imulN C dX6_changes_70 ?_
          refine xt_iload_n C dX6_changes_71 rfl ?_
          refine xt_iaddN C dX6_changes_72 ?_
          refine xt_aload_n C dX6_changes_73 rfl ?_
          refine xt_get (f := 1) C xt_u6 rfl (by decide) (xt_cl49 _ _) (by decide) lkX6_9 rfl dX6_changes_74 ?_
          refine xt_iload_n C dX6_changes_77 rfl ?_
          refine xt_ialdN C (by decide) (xt_cl50 _) (by omega) (by decide) (show _ = T.2.1 50 i from by rw [xt_sA_n (by decide)]) dX6_changes_78 ?_
          refine xt_iastN C (by decide) (xt_cl51 _) (by omega) (by decide) dX6_changes_79 ?_
          rw [xt_sA_s, xt_sA_sA, xt_hn_s]
          refine xt_iincN (z := 1) (lo' := [_, _]) C dX6_changes_80 rfl rfl rfl ?_
          refine xt_goto (tgt := 52) C dX6_changes_83 (by decide) ?_
          exact xt_fg (by repeat' constructor) (ih (i + 1) (by omega) (by omega))
    have h9 := loop2 (517 + 1) 0 (by omega) (by omega)
    rw [xt_hn_0, xt_sA_self] at h9
    exact h9
  have loop1x : kp = 8 → True := fun _ => trivial
  have loop1 : ∀ (d i : Nat), i ≤ 3619 → kp = 8 → 3619 + 1 ≤ i + d → xt_X E cx (xt_ZM E cx 0 0 (xt_Eq none (xt_chg S kp))) 0 0 11 [some (.ref (E.1 49)), some (.int (nI i))] [] (xt_sA S 51 (xt_shf (S.2.1 51) i)) := by
    intro d
    induction d with
    | zero => intro i  h0i k8 h1i; exact absurd h1i (by omega)
    | succ d ih =>
      intro i  h0i k8 h1i
      subst k8
      refine xt_iload_n C dX6_changes_11 rfl ?_
      refine xt_sipush (v := nI 3619) C dX6_changes_12 (by decide) ?_
      refine xt_icmp_geN (tgt := 40) C dX6_changes_15 (by decide) (by omega) (by omega) (fun c15 => ?_) (fun c15 => ?_)
      · refine xt_aload_n C dX6_changes_40 rfl ?_
        refine xt_dup C dX6_changes_41 rfl ?_
        refine xt_get (f := 3) C xt_u6 rfl (by decide) (xt_cl49 _ _) (by decide) lkX6_94 (xt_vI (by exact hu)) dX6_changes_42 ?_
        refine xt_iconst (v := nI 1) C dX6_changes_45 rfl ?_
        refine xt_isubN C dX6_changes_46 (by omega) ?_
        refine xt_put (f := 3) C xt_u6 rfl (by decide) (xt_cl49 _ _) (by decide) tyX6 tyX6_ok nmX6 lkX6_94 rfl (tyX6_ok 3 (by decide)) rfl rfl (Nat.le_of_ble_eq_true rfl) rfl dX6_changes_47 ?_
        refine xt_iconst (v := nI 0) C dX6_changes_50 rfl ?_
        refine xt_istore_n (lo' := [_, _]) C dX6_changes_51 (Nat.le_of_ble_eq_true rfl) rfl rfl ?_
        refine xt_fg (by repeat' constructor) (second _ 7 (by decide) (by simp [xt_sN]) ?_)
        have hi9 : i = 3619 := by omega
        subst hi9
        unfold xt_chg xt_hk xt_hs
        rw [if_pos rfl]
        rw [xt_sNA, xt_s2_s]
        rw [show (xt_sN (xt_sA S 51 (xt_shf (S.2.1 51) 3619)) 49 3 (nI (8 - 1))).2.1 50 = S.2.1 50 from xt_sA_n (by decide)]
        rw [show (xt_sN (xt_sA S 51 (xt_shf (S.2.1 51) 3619)) 49 3 (nI (8 - 1))).2.1 51 = xt_shf (S.2.1 51) 3619 from xt_sA_s, xt_sA_sA]
        rfl
      · refine xt_aload_n C dX6_changes_18 rfl ?_
        refine xt_get (f := 2) C xt_u6 rfl (by decide) (xt_cl49 _ _) (by decide) lkX6_13 rfl dX6_changes_19 ?_
        refine xt_iload_n C dX6_changes_22 rfl ?_
        refine xt_aload_n C dX6_changes_23 rfl ?_
        refine xt_get (f := 2) C xt_u6 rfl (by decide) (xt_cl49 _ _) (by decide) lkX6_13 rfl dX6_changes_24 ?_
        refine xt_sipush (v := nI 517) C dX6_changes_27 (by decide) ?_
        refine xt_iload_n C dX6_changes_30 rfl ?_
        refine xt_iaddN C dX6_changes_31 ?_
        refine xt_ialdN C (by decide) (xt_cl51 _) (by omega) (by decide) (show _ = S.2.1 51 (517 + i) from by rw [xt_sA_s]; unfold xt_shf; rw [if_neg (by omega)]) dX6_changes_32 ?_
        refine xt_iastN C (by decide) (xt_cl51 _) (by omega) (by decide) dX6_changes_33 ?_
        rw [xt_sA_s, xt_sA_sA, xt_shf_s]
        refine xt_iincN (z := 1) (lo' := [_, _]) C dX6_changes_34 rfl rfl rfl ?_
        refine xt_goto (tgt := 11) C dX6_changes_37 (by decide) ?_
        exact xt_fg (by repeat' constructor) (ih (i + 1) (by omega) rfl (by omega))
  refine xt_aload_n C dX6_changes_0 rfl ?_
  refine xt_get (f := 3) C xt_u6 rfl (by decide) (xt_cl49 _ _) (by decide) lkX6_94 (xt_vI (by exact hu)) dX6_changes_1 ?_
  refine xt_bipush (v := nI 8) C dX6_changes_4 (by decide) ?_
  refine xt_icmp_neN (tgt := 50) C dX6_changes_6 (by decide) (by omega) (by omega) (fun c6 => ?_) (fun c6 => ?_)
  · refine xt_iconst (v := nI 0) C dX6_changes_50 rfl ?_
    refine xt_istore_n (lo' := [_, _]) C dX6_changes_51 (Nat.le_of_ble_eq_true rfl) rfl rfl ?_
    refine xt_fg (by repeat' constructor) (second S kp (by omega) hu ?_)
    unfold xt_chg xt_hk xt_hs
    rw [if_neg (by omega), show min kp 7 = kp by omega, show min (kp + 1) 8 = kp + 1 by omega]
  · refine xt_iconst (v := nI 0) C dX6_changes_9 rfl ?_
    refine xt_istore_n (lo' := [_, _]) C dX6_changes_10 (Nat.le_of_ble_eq_true rfl) rfl rfl ?_
    have h9 := loop1 (3619 + 1) 0 (by omega) (by omega) (by omega)
    rw [show xt_shf (S.2.1 51) 0 = S.2.1 51 from by funext j; simp [xt_shf], xt_sA_self] at h9
    exact xt_fg (by repeat' constructor) h9
def xt_ly (f : Nat → Int32) (c2 r2 i : Nat) : Nat → Int32 := fun j => if j = 0 then nI c2 else if j = 1 then nI r2 else if 5 ≤ j ∧ j < 5 + i then nI 0 else f j
theorem xt_ly_s {f : Nat → Int32} {c2 r2 i : Nat} : upd (xt_ly f c2 r2 i) (5 + i) (nI 0) = xt_ly f c2 r2 (i + 1) := by
  funext j
  unfold xt_ly
  by_cases e : j = 5 + i
  · rw [e, xt_up_s, if_neg (by omega), if_neg (by omega), if_pos (by omega)]
  · rw [xt_up_n e]
    by_cases a : j = 0
    · rw [if_pos a, if_pos a]
    · rw [if_neg a, if_neg a]
      by_cases b : j = 1
      · rw [if_pos b, if_pos b]
      · rw [if_neg b, if_neg b]
        by_cases z : 5 ≤ j ∧ j < 5 + i
        · rw [if_pos z, if_pos (by omega)]
        · rw [if_neg z, if_neg (by omega)]
theorem xt_ly_0 {f : Nat → Int32} {c2 r2 : Nat} : upd (upd f 0 (nI c2)) 1 (nI r2) = xt_ly f c2 r2 0 := by
  funext j
  unfold xt_ly
  by_cases b : j = 1
  · rw [b, xt_up_s, if_neg (by decide), if_pos rfl]
  · rw [xt_up_n b]
    by_cases a : j = 0
    · rw [a, xt_up_s, if_pos rfl]
    · rw [xt_up_n a, if_neg a, if_neg b, if_neg (by omega)]
set_option maxRecDepth 20000 in
set_option maxHeartbeats 2000000 in
theorem ct_lays {c2 r2 : Nat} : xt_Ct E l yX6_lays cX6_lays 4 none 0 0 0 0 [.ref (E.1 49), .int (nI c2), .int (nI r2)] S (xt_Eq none (xt_sA S 50 (xt_ly (S.2.1 50) c2 r2 512))) := by
  refine xt_body (by decide +kernel) (xt_all rfl) (Nat.le_of_ble_eq_true rfl) (fun cx C hl9 => ?_)
  show xt_X E cx _ 0 0 0 [some (.ref (E.1 49)), some (.int (nI c2)), some (.int (nI r2)), none] [] S
  have loop : ∀ (d i : Nat), i ≤ 512 →  512 + 1 ≤ i + d → xt_X E cx (xt_ZM E cx 0 0 (xt_Eq none (xt_sA S 50 (xt_ly (S.2.1 50) c2 r2 512)))) 0 0 16 [some (.ref (E.1 49)), some (.int (nI c2)), some (.int (nI r2)), some (.int (nI i))] [] (xt_sA S 50 (xt_ly (S.2.1 50) c2 r2 i)) := by
    intro d
    induction d with
    | zero => intro i  h0i  h1i; exact absurd h1i (by omega)
    | succ d ih =>
      intro i  h0i  h1i
      refine xt_iload_n C dX6_lays_16 rfl ?_
      refine xt_sipush (v := nI 512) C dX6_lays_17 (by decide) ?_
      refine xt_icmp_geN (tgt := 38) C dX6_lays_20 (by decide) (by omega) (by omega) (fun c20 => ?_) (fun c20 => ?_)
      · refine xt_vret C dX6_lays_38 ⟨by decide, by decide⟩ ?_
        rw [show i = 512 by omega]
        exact ⟨rfl, rfl⟩
      · refine xt_aload_n C dX6_lays_23 rfl ?_
        refine xt_get (f := 1) C xt_u6 rfl (by decide) (xt_cl49 _ _) (by decide) lkX6_9 rfl dX6_lays_24 ?_
        refine xt_iconst (v := nI 5) C dX6_lays_27 rfl ?_
        refine xt_iload_n C dX6_lays_28 rfl ?_
        refine xt_iaddN C dX6_lays_29 ?_
        refine xt_iconst (v := nI 0) C dX6_lays_30 rfl ?_
        refine xt_iastN C (by decide) (xt_cl50 _) (by omega) (by decide) dX6_lays_31 ?_
        rw [xt_sA_s, xt_sA_sA, xt_ly_s]
        refine xt_iincN (z := 1) (lo' := [_, _, _, _]) C dX6_lays_32 rfl rfl rfl ?_
        refine xt_goto (tgt := 16) C dX6_lays_35 (by decide) ?_
        exact xt_fg (by repeat' constructor) (ih (i + 1) (by omega) (by omega))
  refine xt_aload_n C dX6_lays_0 rfl ?_
  refine xt_get (f := 1) C xt_u6 rfl (by decide) (xt_cl49 _ _) (by decide) lkX6_9 rfl dX6_lays_1 ?_
  refine xt_iconst (v := nI 0) C dX6_lays_4 rfl ?_
  refine xt_iload_n C dX6_lays_5 rfl ?_
  refine xt_iastN C (by decide) (xt_cl50 _) (by decide) (by decide) dX6_lays_6 ?_
  refine xt_aload_n C dX6_lays_7 rfl ?_
  refine xt_get (f := 1) C xt_u6 rfl (by decide) (xt_cl49 _ _) (by decide) lkX6_9 rfl dX6_lays_8 ?_
  refine xt_iconst (v := nI 1) C dX6_lays_11 rfl ?_
  refine xt_iload_n C dX6_lays_12 rfl ?_
  refine xt_iastN C (by decide) (xt_cl50 _) (by decide) (by decide) dX6_lays_13 ?_
  rw [xt_sA_s, xt_sA_sA, xt_ly_0]
  refine xt_iconst (v := nI 0) C dX6_lays_14 rfl ?_
  refine xt_istore_n (lo' := [_, _, _, _]) C dX6_lays_15 (Nat.le_of_ble_eq_true rfl) rfl rfl ?_
  exact xt_fg (by repeat' constructor) (loop (512 + 1) 0 (by omega) (by omega))
theorem xt_ns0 {v : Int32} (h1 : ¬ v = nI 2) (h2 : ¬ v = nI 4) (h3 : ¬ v = nI 8) : ¬ xt_set (nI 0) v := fun h => by rcases h with ⟨-, h | h | h⟩ | ⟨h, -⟩ | ⟨h, -⟩ <;> first | exact h1 h | exact h2 h | exact h3 h | exact absurd h (by decide)
theorem xt_ss1 {v : Int32} : (nI 0 ≤ v ∧ v ≤ nI 3) ↔ xt_set (nI 1) v := ⟨fun h => Or.inr (Or.inl ⟨rfl, h⟩), fun h => by rcases h with ⟨h, -⟩ | ⟨-, h⟩ | ⟨h, -⟩ <;> first | exact h | exact absurd h (by decide)⟩
theorem xt_ss2 {v : Int32} : (nI 0 ≤ v ∧ v ≤ nI 8) ↔ xt_set (nI 2) v := ⟨fun h => Or.inr (Or.inr ⟨rfl, h⟩), fun h => by rcases h with ⟨h, -⟩ | ⟨h, -⟩ | ⟨-, h⟩ <;> first | exact h | exact absurd h (by decide)⟩
set_option maxRecDepth 20000 in
set_option maxHeartbeats 2000000 in
theorem ct_misSetting {j : Nat} (hj : j < 3) {v : Int32} : xt_Ct E l yX6_isSetting cX6_isSetting 2 (some Jvm.ClassFile.FieldType.boolean) 1 22 0 0 [.int (nI j), .int v] S (xt_Eq (some (.int (xt_b (xt_set (nI j) v)))) S) := by
  refine xt_body (by decide +kernel) (xt_all rfl) (Nat.le_of_ble_eq_true rfl) (fun cx C hl9 => ?_)
  show xt_X E cx _ 0 0 0 [some (.int (nI j)), some (.int v)] [] S
  match j, hj with
  | 0, _ =>
    refine xt_iload_n C dX6_isSetting_0 rfl ?_
    refine xt_if_neN (tgt := 28) C dX6_isSetting_1 (by decide) (by omega) (fun c1 => ?_) (fun c1 => ?_)
    · exact absurd c1 (by omega)
    · refine xt_iload_n C dX6_isSetting_4 rfl ?_
      refine xt_iconst (v := nI 2) C dX6_isSetting_5 rfl ?_
      refine xt_icmp_eq (tgt := 20) C dX6_isSetting_6 (by decide) (fun c6 => ?_) (fun c6 => ?_)
      · refine xt_iconst (v := nI 1) C dX6_isSetting_20 rfl ?_
        refine xt_goto (tgt := 44) C dX6_isSetting_21 (by decide) ?_
        refine xt_zret C dX6_isSetting_44 (by decide) ⟨by decide, by decide⟩ ?_
        first
        | exact xt_q1 (Or.inl ⟨rfl, Or.inl c6⟩)
        | exact xt_q1 (Or.inl ⟨rfl, Or.inr (Or.inl c11)⟩)
        | exact xt_q1 (Or.inl ⟨rfl, Or.inr (Or.inr c17)⟩)
        | exact xt_q0 (xt_ns0 c6 c11 c17)
      · refine xt_iload_n C dX6_isSetting_9 rfl ?_
        refine xt_iconst (v := nI 4) C dX6_isSetting_10 rfl ?_
        refine xt_icmp_eq (tgt := 20) C dX6_isSetting_11 (by decide) (fun c11 => ?_) (fun c11 => ?_)
        · refine xt_iconst (v := nI 1) C dX6_isSetting_20 rfl ?_
          refine xt_goto (tgt := 44) C dX6_isSetting_21 (by decide) ?_
          refine xt_zret C dX6_isSetting_44 (by decide) ⟨by decide, by decide⟩ ?_
          first
          | exact xt_q1 (Or.inl ⟨rfl, Or.inl c6⟩)
          | exact xt_q1 (Or.inl ⟨rfl, Or.inr (Or.inl c11)⟩)
          | exact xt_q1 (Or.inl ⟨rfl, Or.inr (Or.inr c17)⟩)
          | exact xt_q0 (xt_ns0 c6 c11 c17)
        · refine xt_iload_n C dX6_isSetting_14 rfl ?_
          refine xt_bipush (v := nI 8) C dX6_isSetting_15 (by decide) ?_
          refine xt_icmp_ne (tgt := 24) C dX6_isSetting_17 (by decide) (fun c17 => ?_) (fun c17 => ?_)
          · refine xt_iconst (v := nI 0) C dX6_isSetting_24 rfl ?_
            refine xt_goto (tgt := 44) C dX6_isSetting_25 (by decide) ?_
            refine xt_zret C dX6_isSetting_44 (by decide) ⟨by decide, by decide⟩ ?_
            first
            | exact xt_q1 (Or.inl ⟨rfl, Or.inl c6⟩)
            | exact xt_q1 (Or.inl ⟨rfl, Or.inr (Or.inl c11)⟩)
            | exact xt_q1 (Or.inl ⟨rfl, Or.inr (Or.inr c17)⟩)
            | exact xt_q0 (xt_ns0 c6 c11 c17)
          · refine xt_iconst (v := nI 1) C dX6_isSetting_20 rfl ?_
            refine xt_goto (tgt := 44) C dX6_isSetting_21 (by decide) ?_
            refine xt_zret C dX6_isSetting_44 (by decide) ⟨by decide, by decide⟩ ?_
            first
            | exact xt_q1 (Or.inl ⟨rfl, Or.inl c6⟩)
            | exact xt_q1 (Or.inl ⟨rfl, Or.inr (Or.inl c11)⟩)
            | exact xt_q1 (Or.inl ⟨rfl, Or.inr (Or.inr c17)⟩)
            | exact xt_q0 (xt_ns0 c6 c11 c17)
  | 1, _ =>
    refine xt_iload_n C dX6_isSetting_0 rfl ?_
    refine xt_if_neN (tgt := 28) C dX6_isSetting_1 (by decide) (by omega) (fun c1 => ?_) (fun c1 => ?_)
    · refine xt_iload_n C dX6_isSetting_28 rfl ?_
      refine xt_iconst (v := nI 0) C dX6_isSetting_29 rfl ?_
      refine xt_iload_n C dX6_isSetting_30 rfl ?_
      refine xt_iconst (v := nI 1) C dX6_isSetting_31 rfl ?_
      refine xt_icmp_neN (tgt := 39) C dX6_isSetting_32 (by decide) (by omega) (by omega) (fun c32 => ?_) (fun c32 => ?_)
      · exact absurd rfl c32
      · refine xt_iconst (v := nI 3) C dX6_isSetting_35 rfl ?_
        refine xt_goto (tgt := 41) C dX6_isSetting_36 (by decide) ?_
        refine xt_cS C ms_X6_in lkX6_81 ct_in rfl (by decide) rfl (Nat.le_of_ble_eq_true rfl) dX6_isSetting_41 ?_
        exact xt_zret C dX6_isSetting_44 (xt_bz _) ⟨by decide, by decide⟩ (xt_qI (xt_bc xt_ss1))
    · exact absurd c1 (by omega)
  | 2, _ =>
    refine xt_iload_n C dX6_isSetting_0 rfl ?_
    refine xt_if_neN (tgt := 28) C dX6_isSetting_1 (by decide) (by omega) (fun c1 => ?_) (fun c1 => ?_)
    · refine xt_iload_n C dX6_isSetting_28 rfl ?_
      refine xt_iconst (v := nI 0) C dX6_isSetting_29 rfl ?_
      refine xt_iload_n C dX6_isSetting_30 rfl ?_
      refine xt_iconst (v := nI 1) C dX6_isSetting_31 rfl ?_
      refine xt_icmp_neN (tgt := 39) C dX6_isSetting_32 (by decide) (by omega) (by omega) (fun c32 => ?_) (fun c32 => ?_)
      · refine xt_bipush (v := nI 8) C dX6_isSetting_39 (by decide) ?_
        refine xt_cS C ms_X6_in lkX6_81 ct_in rfl (by decide) rfl (Nat.le_of_ble_eq_true rfl) dX6_isSetting_41 ?_
        exact xt_zret C dX6_isSetting_44 (xt_bz _) ⟨by decide, by decide⟩ (xt_qI (xt_bc xt_ss2))
      · exact absurd c32 (by decide)
    · exact absurd c1 (by omega)
set_option maxRecDepth 20000 in
set_option maxHeartbeats 2000000 in
theorem ct_msize {c r sd lv bo : Nat} (hM : xt_Mp S c r sd lv bo) {kp : Nat} (hu : S.1 49 3 = nI kp) (hk8 : kp ≤ 8) {c2 r2 : Nat} (hc2 : 2 ≤ c2 ∧ c2 ≤ 16) (hr2 : 2 ≤ r2 ∧ r2 ≤ 16) : xt_Ct E l yX6_size cX6_size 3 (some Jvm.ClassFile.FieldType.int) 3 60 0 0 [.ref (E.1 49), .int (nI c2), .int (nI r2)] S (xt_Eq (some (.int (nI (xt_nt c2 r2 sd)))) (xt_sA (xt_chg (xt_sN S 49 0 (nI 0)) kp) 50 (xt_ly (S.2.1 50) c2 r2 512))) := by
  refine xt_body (by decide +kernel) (xt_all rfl) (Nat.le_of_ble_eq_true rfl) (fun cx C hl9 => ?_)
  show xt_X E cx _ 0 0 0 [some (.ref (E.1 49)), some (.int (nI c2)), some (.int (nI r2))] [] S
  have hM9 := hM
  obtain ⟨hc, hr, hs, hv, hb, b1, b2, b3, b4, b5, b6, b7⟩ := hM
  refine xt_aload_n C dX6_size_0 rfl ?_
  refine xt_iconst (v := nI 0) C dX6_size_1 rfl ?_
  refine xt_put (f := 0) C xt_u6 rfl (by decide) (xt_cl49 _ _) (by decide) tyX6 tyX6_ok nmX6 lkX6_74 rfl (tyX6_ok 0 (by decide)) rfl rfl (Nat.le_of_ble_eq_true rfl) rfl dX6_size_2 ?_
  refine xt_iload_n C dX6_size_5 rfl ?_
  refine xt_iconst (v := nI 2) C dX6_size_6 rfl ?_
  refine xt_bipush (v := nI 16) C dX6_size_7 (by decide) ?_
  refine xt_cS C ms_X6_in lkX6_81 ct_in rfl (by decide) rfl (Nat.le_of_ble_eq_true rfl) dX6_size_9 ?_
  refine xt_if_eqB (tgt := 25) C dX6_size_12 (by decide) (fun c12 => ?_) (fun c12 => ?_)
  · exact absurd ⟨nI_le hc2.1 (by omega), nI_le hc2.2 (by omega)⟩ c12
  · refine xt_iload_n C dX6_size_15 rfl ?_
    refine xt_iconst (v := nI 2) C dX6_size_16 rfl ?_
    refine xt_bipush (v := nI 16) C dX6_size_17 (by decide) ?_
    refine xt_cS C ms_X6_in lkX6_81 ct_in rfl (by decide) rfl (Nat.le_of_ble_eq_true rfl) dX6_size_19 ?_
    refine xt_if_neB (tgt := 31) C dX6_size_22 (by decide) (fun c22 => ?_) (fun c22 => ?_)
    · refine xt_aload_n C dX6_size_31 rfl ?_
      refine xt_cVn C mv_X6_changes lkX6_145 (ct_changes (by exact hu) hk8) rfl (by decide) (xt_cl49 _ _) rfl (by decide) rfl (Nat.le_of_ble_eq_true rfl) dX6_size_32 ?_
      refine xt_aload_n C dX6_size_35 rfl ?_
      refine xt_iload_n C dX6_size_36 rfl ?_
      refine xt_iload_n C dX6_size_37 rfl ?_
      refine xt_cVn C mv_X6_lays lkX6_70 ct_lays rfl (by decide) (xt_cl49 _ _) rfl (by decide) rfl (Nat.le_of_ble_eq_true rfl) dX6_size_38 ?_
      rw [show (xt_chg (xt_sN S 49 0 (nI 0)) kp).2.1 50 = S.2.1 50 from xt_sA_n (by decide)]
      have hM2 : xt_Mp (xt_sA (xt_chg (xt_sN S 49 0 (nI 0)) kp) 50 (xt_ly (S.2.1 50) c2 r2 512)) c2 r2 sd lv bo := by
        unfold xt_Mp
        rw [xt_sA_s]
        exact ⟨rfl, rfl, by rw [← hs]; rfl, by rw [← hv]; rfl, by rw [← hb]; rfl, hc2.1, hc2.2, hr2.1, hr2.2, b5, b6, b7⟩
      refine xt_aload_n C dX6_size_41 rfl ?_
      refine xt_cV C mv_X6_tiles lkX6_91 (ct_mtiles (by exact hM2)) rfl (by decide) (xt_cl49 _ _) rfl (by decide) rfl (Nat.le_of_ble_eq_true rfl) dX6_size_42 ?_
      exact xt_iret C dX6_size_45 ⟨by decide, by decide⟩ ⟨rfl, rfl⟩
    · exact absurd ⟨nI_le hr2.1 (by omega), nI_le hr2.2 (by omega)⟩ c22
set_option maxRecDepth 20000 in
set_option maxHeartbeats 2000000 in
theorem ct_msize_b {a b9 : Int32} (hbad : ¬ ((nI 2 ≤ a ∧ a ≤ nI 16) ∧ (nI 2 ≤ b9 ∧ b9 ≤ nI 16))) : xt_Ct E l yX6_size cX6_size 3 (some Jvm.ClassFile.FieldType.int) 3 60 0 0 [.ref (E.1 49), .int a, .int b9] S (xt_Ep (some (.int (nI 0))) (xt_mr S 1)) := by
  refine xt_body (by decide +kernel) (xt_all rfl) (Nat.le_of_ble_eq_true rfl) (fun cx C hl9 => ?_)
  show xt_X E cx _ 0 0 0 [some (.ref (E.1 49)), some (.int a), some (.int b9)] [] S
  refine xt_aload_n C dX6_size_0 rfl ?_
  refine xt_iconst (v := nI 0) C dX6_size_1 rfl ?_
  refine xt_put (f := 0) C xt_u6 rfl (by decide) (xt_cl49 _ _) (by decide) tyX6 tyX6_ok nmX6 lkX6_74 rfl (tyX6_ok 0 (by decide)) rfl rfl (Nat.le_of_ble_eq_true rfl) rfl dX6_size_2 ?_
  refine xt_iload_n C dX6_size_5 rfl ?_
  refine xt_iconst (v := nI 2) C dX6_size_6 rfl ?_
  refine xt_bipush (v := nI 16) C dX6_size_7 (by decide) ?_
  refine xt_cS C ms_X6_in lkX6_81 ct_in rfl (by decide) rfl (Nat.le_of_ble_eq_true rfl) dX6_size_9 ?_
  refine xt_if_eqB (tgt := 25) C dX6_size_12 (by decide) (fun c12 => ?_) (fun c12 => ?_)
  · refine xt_aload_n C dX6_size_25 rfl ?_
    refine xt_iconst (v := nI 1) C dX6_size_26 rfl ?_
    refine xt_cV C mv_X6_raises lkX6_142 ct_mraises rfl (by decide) (xt_cl49 _ _) rfl (by decide) rfl (Nat.le_of_ble_eq_true rfl) dX6_size_27 ?_
    exact xt_iret C dX6_size_30 ⟨by decide, by decide⟩ ⟨rfl, xt_mr_x xt_mfr_rf⟩
  · refine xt_iload_n C dX6_size_15 rfl ?_
    refine xt_iconst (v := nI 2) C dX6_size_16 rfl ?_
    refine xt_bipush (v := nI 16) C dX6_size_17 (by decide) ?_
    refine xt_cS C ms_X6_in lkX6_81 ct_in rfl (by decide) rfl (Nat.le_of_ble_eq_true rfl) dX6_size_19 ?_
    refine xt_if_neB (tgt := 31) C dX6_size_22 (by decide) (fun c22 => ?_) (fun c22 => ?_)
    · exact absurd ⟨c12, c22⟩ hbad
    · refine xt_aload_n C dX6_size_25 rfl ?_
      refine xt_iconst (v := nI 1) C dX6_size_26 rfl ?_
      refine xt_cV C mv_X6_raises lkX6_142 ct_mraises rfl (by decide) (xt_cl49 _ _) rfl (by decide) rfl (Nat.le_of_ble_eq_true rfl) dX6_size_27 ?_
      exact xt_iret C dX6_size_30 ⟨by decide, by decide⟩ ⟨rfl, xt_mr_x xt_mfr_rf⟩
set_option maxRecDepth 20000 in
set_option maxHeartbeats 2000000 in
theorem ct_msetting {kp : Nat} (hu : S.1 49 3 = nI kp) (hk8 : kp ≤ 8) {j : Nat} (hj : j < 3) {v : Int32} (hs9 : xt_set (nI j) v) : xt_Ct E l yX6_setting cX6_setting 4 (some Jvm.ClassFile.FieldType.int) 2 43 0 0 [.ref (E.1 49), .int (nI j), .int v] S (xt_Eq (some (.int (S.2.1 50 (2 + j)))) (xt_sA (xt_chg (xt_sN S 49 0 (nI 0)) kp) 50 (upd (S.2.1 50) (2 + j) v))) := by
  refine xt_body (by decide +kernel) (xt_all rfl) (Nat.le_of_ble_eq_true rfl) (fun cx C hl9 => ?_)
  show xt_X E cx _ 0 0 0 [some (.ref (E.1 49)), some (.int (nI j)), some (.int v), none] [] S
  refine xt_aload_n C dX6_setting_0 rfl ?_
  refine xt_iconst (v := nI 0) C dX6_setting_1 rfl ?_
  refine xt_put (f := 0) C xt_u6 rfl (by decide) (xt_cl49 _ _) (by decide) tyX6 tyX6_ok nmX6 lkX6_74 rfl (tyX6_ok 0 (by decide)) rfl rfl (Nat.le_of_ble_eq_true rfl) rfl dX6_setting_2 ?_
  refine xt_iload_n C dX6_setting_5 rfl ?_
  refine xt_iconst (v := nI 0) C dX6_setting_6 rfl ?_
  refine xt_iconst (v := nI 2) C dX6_setting_7 rfl ?_
  refine xt_cS C ms_X6_in lkX6_81 ct_in rfl (by decide) rfl (Nat.le_of_ble_eq_true rfl) dX6_setting_8 ?_
  refine xt_if_eqB (tgt := 22) C dX6_setting_11 (by decide) (fun c11 => ?_) (fun c11 => ?_)
  · exact absurd ⟨nI_pos' (by omega), nI_le (by omega) (by omega)⟩ c11
  · refine xt_iload_n C dX6_setting_14 rfl ?_
    refine xt_iload_n C dX6_setting_15 rfl ?_
    refine xt_cS C ms_X6_isSetting lkX6_148 (ct_misSetting hj) rfl (by decide) rfl (Nat.le_of_ble_eq_true rfl) dX6_setting_16 ?_
    refine xt_if_neB (tgt := 28) C dX6_setting_19 (by decide) (fun c19 => ?_) (fun c19 => ?_)
    · refine xt_aload_n C dX6_setting_28 rfl ?_
      refine xt_cVn C mv_X6_changes lkX6_145 (ct_changes (by exact hu) hk8) rfl (by decide) (xt_cl49 _ _) rfl (by decide) rfl (Nat.le_of_ble_eq_true rfl) dX6_setting_29 ?_
      refine xt_aload_n C dX6_setting_32 rfl ?_
      refine xt_get (f := 1) C xt_u6 rfl (by decide) (xt_cl49 _ _) (by decide) lkX6_9 rfl dX6_setting_33 ?_
      refine xt_iconst (v := nI 2) C dX6_setting_36 rfl ?_
      refine xt_iload_n C dX6_setting_37 rfl ?_
      refine xt_iaddN C dX6_setting_38 ?_
      refine xt_ialdN C (by decide) (xt_cl50 _) (by omega) (by decide) (show (xt_chg (xt_sN S 49 0 (nI 0)) kp).2.1 50 (2 + j) = S.2.1 50 (2 + j) from congrFun (xt_sA_n (by decide)) _) dX6_setting_39 ?_
      refine xt_istore_n (lo' := [_, _, _, _]) C dX6_setting_40 (Nat.le_of_ble_eq_true rfl) rfl rfl ?_
      refine xt_aload_n C dX6_setting_41 rfl ?_
      refine xt_get (f := 1) C xt_u6 rfl (by decide) (xt_cl49 _ _) (by decide) lkX6_9 rfl dX6_setting_42 ?_
      refine xt_iconst (v := nI 2) C dX6_setting_45 rfl ?_
      refine xt_iload_n C dX6_setting_46 rfl ?_
      refine xt_iaddN C dX6_setting_47 ?_
      refine xt_iload_n C dX6_setting_48 rfl ?_
      refine xt_iastN C (by decide) (xt_cl50 _) (by omega) (by decide) dX6_setting_49 ?_
      refine xt_iload_n C dX6_setting_50 rfl ?_
      refine xt_iret C dX6_setting_51 ⟨by decide, by decide⟩ ?_
      rw [show (xt_chg (xt_sN S 49 0 (nI 0)) kp).2.1 50 = S.2.1 50 from xt_sA_n (by decide)]
      exact ⟨rfl, rfl⟩
    · exact absurd hs9 c19
set_option maxRecDepth 20000 in
set_option maxHeartbeats 2000000 in
theorem ct_msetting_b1 {a v : Int32} (hbad : ¬ (nI 0 ≤ a ∧ a ≤ nI 2)) : xt_Ct E l yX6_setting cX6_setting 4 (some Jvm.ClassFile.FieldType.int) 2 43 0 0 [.ref (E.1 49), .int a, .int v] S (xt_Ep (some (.int (nI 0))) (xt_mr S 1)) := by
  refine xt_body (by decide +kernel) (xt_all rfl) (Nat.le_of_ble_eq_true rfl) (fun cx C hl9 => ?_)
  show xt_X E cx _ 0 0 0 [some (.ref (E.1 49)), some (.int a), some (.int v), none] [] S
  refine xt_aload_n C dX6_setting_0 rfl ?_
  refine xt_iconst (v := nI 0) C dX6_setting_1 rfl ?_
  refine xt_put (f := 0) C xt_u6 rfl (by decide) (xt_cl49 _ _) (by decide) tyX6 tyX6_ok nmX6 lkX6_74 rfl (tyX6_ok 0 (by decide)) rfl rfl (Nat.le_of_ble_eq_true rfl) rfl dX6_setting_2 ?_
  refine xt_iload_n C dX6_setting_5 rfl ?_
  refine xt_iconst (v := nI 0) C dX6_setting_6 rfl ?_
  refine xt_iconst (v := nI 2) C dX6_setting_7 rfl ?_
  refine xt_cS C ms_X6_in lkX6_81 ct_in rfl (by decide) rfl (Nat.le_of_ble_eq_true rfl) dX6_setting_8 ?_
  refine xt_if_eqB (tgt := 22) C dX6_setting_11 (by decide) (fun c11 => ?_) (fun c11 => ?_)
  · refine xt_aload_n C dX6_setting_22 rfl ?_
    refine xt_iconst (v := nI 1) C dX6_setting_23 rfl ?_
    refine xt_cV C mv_X6_raises lkX6_142 ct_mraises rfl (by decide) (xt_cl49 _ _) rfl (by decide) rfl (Nat.le_of_ble_eq_true rfl) dX6_setting_24 ?_
    exact xt_iret C dX6_setting_27 ⟨by decide, by decide⟩ ⟨rfl, xt_mr_x xt_mfr_rf⟩
  · exact absurd c11 hbad
set_option maxRecDepth 20000 in
set_option maxHeartbeats 2000000 in
theorem ct_msetting_b2 {j : Nat} (hj : j < 3) {v : Int32} (hbad : ¬ xt_set (nI j) v) : xt_Ct E l yX6_setting cX6_setting 4 (some Jvm.ClassFile.FieldType.int) 2 43 0 0 [.ref (E.1 49), .int (nI j), .int v] S (xt_Ep (some (.int (nI 0))) (xt_mr S 1)) := by
  refine xt_body (by decide +kernel) (xt_all rfl) (Nat.le_of_ble_eq_true rfl) (fun cx C hl9 => ?_)
  show xt_X E cx _ 0 0 0 [some (.ref (E.1 49)), some (.int (nI j)), some (.int v), none] [] S
  refine xt_aload_n C dX6_setting_0 rfl ?_
  refine xt_iconst (v := nI 0) C dX6_setting_1 rfl ?_
  refine xt_put (f := 0) C xt_u6 rfl (by decide) (xt_cl49 _ _) (by decide) tyX6 tyX6_ok nmX6 lkX6_74 rfl (tyX6_ok 0 (by decide)) rfl rfl (Nat.le_of_ble_eq_true rfl) rfl dX6_setting_2 ?_
  refine xt_iload_n C dX6_setting_5 rfl ?_
  refine xt_iconst (v := nI 0) C dX6_setting_6 rfl ?_
  refine xt_iconst (v := nI 2) C dX6_setting_7 rfl ?_
  refine xt_cS C ms_X6_in lkX6_81 ct_in rfl (by decide) rfl (Nat.le_of_ble_eq_true rfl) dX6_setting_8 ?_
  refine xt_if_eqB (tgt := 22) C dX6_setting_11 (by decide) (fun c11 => ?_) (fun c11 => ?_)
  · exact absurd ⟨nI_pos' (by omega), nI_le (by omega) (by omega)⟩ c11
  · refine xt_iload_n C dX6_setting_14 rfl ?_
    refine xt_iload_n C dX6_setting_15 rfl ?_
    refine xt_cS C ms_X6_isSetting lkX6_148 (ct_misSetting hj) rfl (by decide) rfl (Nat.le_of_ble_eq_true rfl) dX6_setting_16 ?_
    refine xt_if_neB (tgt := 28) C dX6_setting_19 (by decide) (fun c19 => ?_) (fun c19 => ?_)
    · exact absurd c19 hbad
    · refine xt_aload_n C dX6_setting_22 rfl ?_
      refine xt_iconst (v := nI 1) C dX6_setting_23 rfl ?_
      refine xt_cV C mv_X6_raises lkX6_142 ct_mraises rfl (by decide) (xt_cl49 _ _) rfl (by decide) rfl (Nat.le_of_ble_eq_true rfl) dX6_setting_24 ?_
      exact xt_iret C dX6_setting_27 ⟨by decide, by decide⟩ ⟨rfl, xt_mr_x xt_mfr_rf⟩
set_option maxRecDepth 20000 in
set_option maxHeartbeats 2000000 in
theorem ct_mset {c r sd lv bo : Nat} (hM : xt_Mp S c r sd lv bo) {kp : Nat} (hu : S.1 49 3 = nI kp) (hk8 : kp ≤ 8) {x y : Nat} (hx : x < c) (hy : y < r) {z : Int32} (hz : nI 0 ≤ z ∧ z ≤ nI 255) : xt_Ct E l yX6_set cX6_set 5 (some Jvm.ClassFile.FieldType.int) 2 44 0 0 [.ref (E.1 49), .int (nI x), .int (nI y), .int z] S (xt_Eq (some (.int (xt_mV S (y * c + x)))) (xt_sA (xt_chg (xt_sN S 49 0 (nI 0)) kp) 50 (upd (S.2.1 50) (5 + (y * c + x)) z))) := by
  refine xt_body (by decide +kernel) (xt_all rfl) (Nat.le_of_ble_eq_true rfl) (fun cx C hl9 => ?_)
  show xt_X E cx _ 0 0 0 [some (.ref (E.1 49)), some (.int (nI x)), some (.int (nI y)), some (.int z), none] [] S
  have hM9 := hM
  obtain ⟨hc, hr, hs, hv, hb, b1, b2, b3, b4, b5, b6, b7⟩ := hM
  have hix := (xt_ix hx hy b2 b4).1
  refine xt_aload_n C dX6_set_0 rfl ?_
  refine xt_iconst (v := nI 0) C dX6_set_1 rfl ?_
  refine xt_put (f := 0) C xt_u6 rfl (by decide) (xt_cl49 _ _) (by decide) tyX6 tyX6_ok nmX6 lkX6_74 rfl (tyX6_ok 0 (by decide)) rfl rfl (Nat.le_of_ble_eq_true rfl) rfl dX6_set_2 ?_
  refine xt_aload_n C dX6_set_5 rfl ?_
  refine xt_iload_n C dX6_set_6 rfl ?_
  refine xt_iload_n C dX6_set_7 rfl ?_
  refine xt_cV C mv_X6_isPixel lkX6_158 (ct_isPixel (by exact hM9)) rfl (by decide) (xt_cl49 _ _) rfl (by decide) rfl (Nat.le_of_ble_eq_true rfl) dX6_set_8 ?_
  refine xt_if_neB (tgt := 20) C dX6_set_11 (by decide) (fun c11 => ?_) (fun c11 => ?_)
  · refine xt_iload_n C dX6_set_20 rfl ?_
    refine xt_iconst (v := nI 0) C dX6_set_21 rfl ?_
    refine xt_sipush (v := nI 255) C dX6_set_22 (by decide) ?_
    refine xt_cS C ms_X6_in lkX6_81 ct_in rfl (by decide) rfl (Nat.le_of_ble_eq_true rfl) dX6_set_25 ?_
    refine xt_if_neB (tgt := 37) C dX6_set_28 (by decide) (fun c28 => ?_) (fun c28 => ?_)
    · refine xt_aload_n C dX6_set_37 rfl ?_
      refine xt_cVn C mv_X6_changes lkX6_145 (ct_changes (by exact hu) hk8) rfl (by decide) (xt_cl49 _ _) rfl (by decide) rfl (Nat.le_of_ble_eq_true rfl) dX6_set_38 ?_
      have hM2 : xt_Mp (xt_chg (xt_sN S 49 0 (nI 0)) kp) c r sd lv bo := by
        unfold xt_Mp
        rw [show (xt_chg (xt_sN S 49 0 (nI 0)) kp).2.1 50 = S.2.1 50 from xt_sA_n (by decide)]
        exact hM9
      refine xt_aload_n C dX6_set_41 rfl ?_
      refine xt_iload_n C dX6_set_42 rfl ?_
      refine xt_iload_n C dX6_set_43 rfl ?_
      refine xt_cV C mv_X6_value lkX6_119 (ct_mvalue (by exact hM2) hix) rfl (by decide) (xt_cl49 _ _) rfl (by decide) rfl (Nat.le_of_ble_eq_true rfl) dX6_set_44 ?_
      rw [show xt_mV (xt_chg (xt_sN S 49 0 (nI 0)) kp) = xt_mV S from by unfold xt_mV; rw [show (xt_chg (xt_sN S 49 0 (nI 0)) kp).2.1 50 = S.2.1 50 from xt_sA_n (by decide)]]
      refine xt_istore (lo' := [_, _, _, _, _]) C dX6_set_47 (Nat.le_of_ble_eq_true rfl) rfl rfl ?_
      refine xt_aload_n C dX6_set_49 rfl ?_
      refine xt_get (f := 1) C xt_u6 rfl (by decide) (xt_cl49 _ _) (by decide) lkX6_9 rfl dX6_set_50 ?_
      refine xt_iconst (v := nI 5) C dX6_set_53 rfl ?_
      refine xt_aload_n C dX6_set_54 rfl ?_
      refine xt_cV C mv_X6_columns lkX6_77 (ct_mcol (by exact hM2)) rfl (by decide) (xt_cl49 _ _) rfl (by decide) rfl (Nat.le_of_ble_eq_true rfl) dX6_set_55 ?_
      refine xt_iload_n C dX6_set_58 rfl ?_
      refine xt_imulN C dX6_set_59 ?_
      refine xt_iaddN C dX6_set_60 ?_
      refine xt_iload_n C dX6_set_61 rfl ?_
      refine xt_iaddN C dX6_set_62 ?_
      rw [show 5 + c * y + x = 5 + (y * c + x) by rw [Nat.mul_comm y c, Nat.add_assoc]]
      refine xt_iload_n C dX6_set_63 rfl ?_
      refine xt_iastN C (by decide) (xt_cl50 _) (by omega) (by decide) dX6_set_64 ?_
      refine xt_iload C dX6_set_65 rfl ?_
      refine xt_iret C dX6_set_67 ⟨by decide, by decide⟩ ?_
      rw [show (xt_chg (xt_sN S 49 0 (nI 0)) kp).2.1 50 = S.2.1 50 from xt_sA_n (by decide)]
      exact ⟨rfl, rfl⟩
    · exact absurd hz c28
  · exact absurd ⟨⟨x, hx, rfl⟩, y, hy, rfl⟩ c11
set_option maxRecDepth 20000 in
set_option maxHeartbeats 2000000 in
theorem ct_mset_b1 {c r sd lv bo : Nat} (hM : xt_Mp S c r sd lv bo) {x y z : Int32} (hbad : ¬ xt_pix c r x y) : xt_Ct E l yX6_set cX6_set 5 (some Jvm.ClassFile.FieldType.int) 2 44 0 0 [.ref (E.1 49), .int x, .int y, .int z] S (xt_Ep (some (.int (nI 0))) (xt_mr S 1)) := by
  refine xt_body (by decide +kernel) (xt_all rfl) (Nat.le_of_ble_eq_true rfl) (fun cx C hl9 => ?_)
  show xt_X E cx _ 0 0 0 [some (.ref (E.1 49)), some (.int x), some (.int y), some (.int z), none] [] S
  have hM9 := hM
  obtain ⟨hc, hr, hs, hv, hb, b1, b2, b3, b4, b5, b6, b7⟩ := hM
  refine xt_aload_n C dX6_set_0 rfl ?_
  refine xt_iconst (v := nI 0) C dX6_set_1 rfl ?_
  refine xt_put (f := 0) C xt_u6 rfl (by decide) (xt_cl49 _ _) (by decide) tyX6 tyX6_ok nmX6 lkX6_74 rfl (tyX6_ok 0 (by decide)) rfl rfl (Nat.le_of_ble_eq_true rfl) rfl dX6_set_2 ?_
  refine xt_aload_n C dX6_set_5 rfl ?_
  refine xt_iload_n C dX6_set_6 rfl ?_
  refine xt_iload_n C dX6_set_7 rfl ?_
  refine xt_cV C mv_X6_isPixel lkX6_158 (ct_isPixel (by exact hM9)) rfl (by decide) (xt_cl49 _ _) rfl (by decide) rfl (Nat.le_of_ble_eq_true rfl) dX6_set_8 ?_
  refine xt_if_neB (tgt := 20) C dX6_set_11 (by decide) (fun c11 => ?_) (fun c11 => ?_)
  · exact absurd c11 hbad
  · refine xt_aload_n C dX6_set_14 rfl ?_
    refine xt_iconst (v := nI 1) C dX6_set_15 rfl ?_
    refine xt_cV C mv_X6_raises lkX6_142 ct_mraises rfl (by decide) (xt_cl49 _ _) rfl (by decide) rfl (Nat.le_of_ble_eq_true rfl) dX6_set_16 ?_
    exact xt_iret C dX6_set_19 ⟨by decide, by decide⟩ ⟨rfl, xt_mr_x xt_mfr_rf⟩
set_option maxRecDepth 20000 in
set_option maxHeartbeats 2000000 in
theorem ct_mset_b2 {c r sd lv bo : Nat} (hM : xt_Mp S c r sd lv bo) {x y z : Int32} (hp : xt_pix c r x y) (hbad : ¬ (nI 0 ≤ z ∧ z ≤ nI 255)) : xt_Ct E l yX6_set cX6_set 5 (some Jvm.ClassFile.FieldType.int) 2 44 0 0 [.ref (E.1 49), .int x, .int y, .int z] S (xt_Ep (some (.int (nI 0))) (xt_mr S 2)) := by
  refine xt_body (by decide +kernel) (xt_all rfl) (Nat.le_of_ble_eq_true rfl) (fun cx C hl9 => ?_)
  show xt_X E cx _ 0 0 0 [some (.ref (E.1 49)), some (.int x), some (.int y), some (.int z), none] [] S
  have hM9 := hM
  obtain ⟨hc, hr, hs, hv, hb, b1, b2, b3, b4, b5, b6, b7⟩ := hM
  refine xt_aload_n C dX6_set_0 rfl ?_
  refine xt_iconst (v := nI 0) C dX6_set_1 rfl ?_
  refine xt_put (f := 0) C xt_u6 rfl (by decide) (xt_cl49 _ _) (by decide) tyX6 tyX6_ok nmX6 lkX6_74 rfl (tyX6_ok 0 (by decide)) rfl rfl (Nat.le_of_ble_eq_true rfl) rfl dX6_set_2 ?_
  refine xt_aload_n C dX6_set_5 rfl ?_
  refine xt_iload_n C dX6_set_6 rfl ?_
  refine xt_iload_n C dX6_set_7 rfl ?_
  refine xt_cV C mv_X6_isPixel lkX6_158 (ct_isPixel (by exact hM9)) rfl (by decide) (xt_cl49 _ _) rfl (by decide) rfl (Nat.le_of_ble_eq_true rfl) dX6_set_8 ?_
  refine xt_if_neB (tgt := 20) C dX6_set_11 (by decide) (fun c11 => ?_) (fun c11 => ?_)
  · refine xt_iload_n C dX6_set_20 rfl ?_
    refine xt_iconst (v := nI 0) C dX6_set_21 rfl ?_
    refine xt_sipush (v := nI 255) C dX6_set_22 (by decide) ?_
    refine xt_cS C ms_X6_in lkX6_81 ct_in rfl (by decide) rfl (Nat.le_of_ble_eq_true rfl) dX6_set_25 ?_
    refine xt_if_neB (tgt := 37) C dX6_set_28 (by decide) (fun c28 => ?_) (fun c28 => ?_)
    · exact absurd c28 hbad
    · refine xt_aload_n C dX6_set_31 rfl ?_
      refine xt_iconst (v := nI 2) C dX6_set_32 rfl ?_
      refine xt_cV C mv_X6_raises lkX6_142 ct_mraises rfl (by decide) (xt_cl49 _ _) rfl (by decide) rfl (Nat.le_of_ble_eq_true rfl) dX6_set_33 ?_
      exact xt_iret C dX6_set_36 ⟨by decide, by decide⟩ ⟨rfl, xt_mr_x xt_mfr_rf⟩
  · exact absurd hp c11
set_option maxRecDepth 20000 in
set_option maxHeartbeats 2000000 in
theorem ct_mfeed {n : Nat} (hn : S.1 49 8 = nI n) (h60 : n < 60) {x : Int32} : xt_Ct E l yX6_feed cX6_feed 2 (some Jvm.ClassFile.FieldType.int) 1 21 0 0 [.ref (E.1 49), .int x] S (xt_Eq (some (.int (nI (n + 1)))) (xt_sA (xt_sN (xt_sN S 49 0 (nI 0)) 49 8 (nI (n + 1))) 54 (upd (S.2.1 54) n x))) := by
  refine xt_body (by decide +kernel) (xt_all rfl) (Nat.le_of_ble_eq_true rfl) (fun cx C hl9 => ?_)
  show xt_X E cx _ 0 0 0 [some (.ref (E.1 49)), some (.int x)] [] S
  refine xt_aload_n C dX6_feed_0 rfl ?_
  refine xt_iconst (v := nI 0) C dX6_feed_1 rfl ?_
  refine xt_put (f := 0) C xt_u6 rfl (by decide) (xt_cl49 _ _) (by decide) tyX6 tyX6_ok nmX6 lkX6_74 rfl (tyX6_ok 0 (by decide)) rfl rfl (Nat.le_of_ble_eq_true rfl) rfl dX6_feed_2 ?_
  refine xt_aload_n C dX6_feed_5 rfl ?_
  refine xt_get (f := 8) C xt_u6 rfl (by decide) (xt_cl49 _ _) (by decide) lkX6_155 (xt_vI (by exact hn)) dX6_feed_6 ?_
  refine xt_bipush (v := nI 60) C dX6_feed_9 (by decide) ?_
  refine xt_icmp_neN (tgt := 20) C dX6_feed_11 (by decide) (by omega) (by omega) (fun c11 => ?_) (fun c11 => ?_)
  · refine xt_aload_n C dX6_feed_20 rfl ?_
    refine xt_get (f := 7) C xt_u6 rfl (by decide) (xt_cl49 _ _) (by decide) lkX6_22 rfl dX6_feed_21 ?_
    refine xt_aload_n C dX6_feed_24 rfl ?_
    refine xt_dup C dX6_feed_25 rfl ?_
    refine xt_get (f := 8) C xt_u6 rfl (by decide) (xt_cl49 _ _) (by decide) lkX6_155 (xt_vI (by exact hn)) dX6_feed_26 ?_
    refine xt_dup_x1 C dX6_feed_29 rfl rfl ?_
    refine xt_iconst (v := nI 1) C dX6_feed_30 rfl ?_
    refine xt_iaddN C dX6_feed_31 ?_
    refine xt_put (f := 8) C xt_u6 rfl (by decide) (xt_cl49 _ _) (by decide) tyX6 tyX6_ok nmX6 lkX6_155 rfl (tyX6_ok 8 (by decide)) rfl rfl (Nat.le_of_ble_eq_true rfl) rfl dX6_feed_32 ?_
    refine xt_iload_n C dX6_feed_35 rfl ?_
    refine xt_iastN C (by decide) (xt_cl54 _) (by omega) (by decide) dX6_feed_36 ?_
    refine xt_aload_n C dX6_feed_37 rfl ?_
    refine xt_get (f := 8) C xt_u6 rfl (by decide) (xt_cl49 _ _) (by decide) lkX6_155 (xt_vI (show (xt_sA (xt_sN (xt_sN S 49 0 (nI 0)) 49 8 (nI (n + 1))) 54 (upd (S.2.1 54) n x)).1 49 8 = nI (n + 1) from by simp [xt_sN, xt_sA])) dX6_feed_38 ?_
    exact xt_iret C dX6_feed_41 ⟨by decide, by decide⟩ ⟨rfl, rfl⟩
  · exact absurd c11 (by omega)
set_option maxRecDepth 20000 in
set_option maxHeartbeats 2000000 in
theorem ct_mfeed_b (hn : S.1 49 8 = nI 60) {x : Int32} : xt_Ct E l yX6_feed cX6_feed 2 (some Jvm.ClassFile.FieldType.int) 1 21 0 0 [.ref (E.1 49), .int x] S (xt_Ep (some (.int (nI 0))) (xt_mr S 1)) := by
  refine xt_body (by decide +kernel) (xt_all rfl) (Nat.le_of_ble_eq_true rfl) (fun cx C hl9 => ?_)
  show xt_X E cx _ 0 0 0 [some (.ref (E.1 49)), some (.int x)] [] S
  refine xt_aload_n C dX6_feed_0 rfl ?_
  refine xt_iconst (v := nI 0) C dX6_feed_1 rfl ?_
  refine xt_put (f := 0) C xt_u6 rfl (by decide) (xt_cl49 _ _) (by decide) tyX6 tyX6_ok nmX6 lkX6_74 rfl (tyX6_ok 0 (by decide)) rfl rfl (Nat.le_of_ble_eq_true rfl) rfl dX6_feed_2 ?_
  refine xt_aload_n C dX6_feed_5 rfl ?_
  refine xt_get (f := 8) C xt_u6 rfl (by decide) (xt_cl49 _ _) (by decide) lkX6_155 (xt_vI (by exact hn)) dX6_feed_6 ?_
  refine xt_bipush (v := nI 60) C dX6_feed_9 (by decide) ?_
  refine xt_icmp_neN (tgt := 20) C dX6_feed_11 (by decide) (by omega) (by omega) (fun c11 => ?_) (fun c11 => ?_)
  · exact absurd rfl c11
  · refine xt_aload_n C dX6_feed_14 rfl ?_
    refine xt_iconst (v := nI 1) C dX6_feed_15 rfl ?_
    refine xt_cV C mv_X6_raises lkX6_142 ct_mraises rfl (by decide) (xt_cl49 _ _) rfl (by decide) rfl (Nat.le_of_ble_eq_true rfl) dX6_feed_16 ?_
    exact xt_iret C dX6_feed_19 ⟨by decide, by decide⟩ ⟨rfl, xt_mr_x xt_mfr_rf⟩
def xt_cpy (f g : Nat → Int32) (o i : Nat) : Nat → Int32 := fun j => if j < i then g (o + j) else f j
theorem xt_cpy_s {f g : Nat → Int32} {o i : Nat} : upd (xt_cpy f g o i) i (g (o + i)) = xt_cpy f g o (i + 1) := by
  funext j
  unfold xt_cpy
  by_cases e : j = i
  · rw [e, xt_up_s, if_pos (by omega)]
  · rw [xt_up_n e]
    by_cases z : j < i
    · rw [if_pos z, if_pos (by omega)]
    · rw [if_neg z, if_neg (by omega)]
theorem xt_cpy_0 {f g : Nat → Int32} {o : Nat} : xt_cpy f g o 0 = f := by funext j; simp [xt_cpy]
set_option maxRecDepth 20000 in
set_option maxHeartbeats 2000000 in
theorem ct_mundo {kp : Nat} (hu : S.1 49 3 = nI (kp + 1)) (hk8 : kp < 8) : xt_Ct E l yX6_undo cX6_undo 2 (some Jvm.ClassFile.FieldType.int) 1 21 0 0 [.ref (E.1 49)] S (xt_Eq (some (.int (nI kp))) (xt_sA (xt_sN (xt_sN S 49 0 (nI 0)) 49 3 (nI kp)) 50 (xt_cpy (S.2.1 50) (S.2.1 51) (517 * kp) 517))) := by
  refine xt_body (by decide +kernel) (xt_all rfl) (Nat.le_of_ble_eq_true rfl) (fun cx C hl9 => ?_)
  show xt_X E cx _ 0 0 0 [some (.ref (E.1 49)), none] [] S
  have loop : ∀ (d i : Nat), i ≤ 517 →  517 + 1 ≤ i + d → xt_X E cx (xt_ZM E cx 0 0 (xt_Eq (some (.int (nI kp))) (xt_sA (xt_sN (xt_sN S 49 0 (nI 0)) 49 3 (nI kp)) 50 (xt_cpy (S.2.1 50) (S.2.1 51) (517 * kp) 517)))) 0 0 30 [some (.ref (E.1 49)), some (.int (nI i))] [] (xt_sA (xt_sN (xt_sN S 49 0 (nI 0)) 49 3 (nI kp)) 50 (xt_cpy (S.2.1 50) (S.2.1 51) (517 * kp) i)) := by
    intro d
    induction d with
    | zero => intro i  h0i  h1i; exact absurd h1i (by omega)
    | succ d ih =>
      intro i  h0i  h1i
      refine xt_iload_n C dX6_undo_30 rfl ?_
      refine xt_sipush (v := nI 517) C dX6_undo_31 (by decide) ?_
      refine xt_icmp_geN (tgt := 64) C dX6_undo_34 (by decide) (by omega) (by omega) (fun c34 => ?_) (fun c34 => ?_)
      · refine xt_aload_n C dX6_undo_64 rfl ?_
        refine xt_get (f := 3) C xt_u6 rfl (by decide) (xt_cl49 _ _) (by decide) lkX6_94 (xt_vI (show (xt_sA (xt_sN (xt_sN S 49 0 (nI 0)) 49 3 (nI kp)) 50 (xt_cpy (S.2.1 50) (S.2.1 51) (517 * kp) i)).1 49 3 = nI kp from by simp [xt_sN, xt_sA])) dX6_undo_65 ?_
        refine xt_iret C dX6_undo_68 ⟨by decide, by decide⟩ ?_
        rw [show i = 517 by omega]
        exact ⟨rfl, rfl⟩
      · refine xt_aload_n C dX6_undo_37 rfl ?_
        refine xt_get (f := 1) C xt_u6 rfl (by decide) (xt_cl49 _ _) (by decide) lkX6_9 rfl dX6_undo_38 ?_
        refine xt_iload_n C dX6_undo_41 rfl ?_
        refine xt_aload_n C dX6_undo_42 rfl ?_
        refine xt_get (f := 2) C xt_u6 rfl (by decide) (xt_cl49 _ _) (by decide) lkX6_13 rfl dX6_undo_43 ?_
        refine xt_sipush (v := nI 517) C dX6_undo_46 (by decide) ?_
        refine xt_aload_n C dX6_undo_49 rfl ?_
        refine xt_get (f := 3) C xt_u6 rfl (by decide) (xt_cl49 _ _) (by decide) lkX6_94 (xt_vI (show (xt_sA (xt_sN (xt_sN S 49 0 (nI 0)) 49 3 (nI kp)) 50 (xt_cpy (S.2.1 50) (S.2.1 51) (517 * kp) i)).1 49 3 = nI kp from by simp [xt_sN, xt_sA])) dX6_undo_50 ?_
        refine xt_imulN C dX6_undo_53 ?_
        refine xt_iload_n C dX6_undo_54 rfl ?_
        refine xt_iaddN C dX6_undo_55 ?_
        refine xt_ialdN C (by decide) (xt_cl51 _) (by omega) (by decide) (show (xt_sA (xt_sN (xt_sN S 49 0 (nI 0)) 49 3 (nI kp)) 50 (xt_cpy (S.2.1 50) (S.2.1 51) (517 * kp) i)).2.1 51 (517 * kp + i) = S.2.1 51 (517 * kp + i) from congrFun (xt_sA_n (by decide)) _) dX6_undo_56 ?_
        refine xt_iastN C (by decide) (xt_cl50 _) (by omega) (by decide) dX6_undo_57 ?_
        rw [xt_sA_s, xt_sA_sA, xt_cpy_s]
        refine xt_iincN (z := 1) (lo' := [_, _]) C dX6_undo_58 rfl rfl rfl ?_
        refine xt_goto (tgt := 30) C dX6_undo_61 (by decide) ?_
        exact xt_fg (by repeat' constructor) (ih (i + 1) (by omega) (by omega))
  refine xt_aload_n C dX6_undo_0 rfl ?_
  refine xt_iconst (v := nI 0) C dX6_undo_1 rfl ?_
  refine xt_put (f := 0) C xt_u6 rfl (by decide) (xt_cl49 _ _) (by decide) tyX6 tyX6_ok nmX6 lkX6_74 rfl (tyX6_ok 0 (by decide)) rfl rfl (Nat.le_of_ble_eq_true rfl) rfl dX6_undo_2 ?_
  refine xt_aload_n C dX6_undo_5 rfl ?_
  refine xt_get (f := 3) C xt_u6 rfl (by decide) (xt_cl49 _ _) (by decide) lkX6_94 (xt_vI (by exact hu)) dX6_undo_6 ?_
  refine xt_if_neN (tgt := 18) C dX6_undo_9 (by decide) (by omega) (fun c9 => ?_) (fun c9 => ?_)
  · refine xt_aload_n C dX6_undo_18 rfl ?_
    refine xt_dup C dX6_undo_19 rfl ?_
    refine xt_get (f := 3) C xt_u6 rfl (by decide) (xt_cl49 _ _) (by decide) lkX6_94 (xt_vI (by exact hu)) dX6_undo_20 ?_
    refine xt_iconst (v := nI 1) C dX6_undo_23 rfl ?_
    refine xt_isubN C dX6_undo_24 (by omega) ?_
    rw [show kp + 1 - 1 = kp by omega]
    refine xt_put (f := 3) C xt_u6 rfl (by decide) (xt_cl49 _ _) (by decide) tyX6 tyX6_ok nmX6 lkX6_94 rfl (tyX6_ok 3 (by decide)) rfl rfl (Nat.le_of_ble_eq_true rfl) rfl dX6_undo_25 ?_
    refine xt_iconst (v := nI 0) C dX6_undo_28 rfl ?_
    refine xt_istore_n (lo' := [_, _]) C dX6_undo_29 (Nat.le_of_ble_eq_true rfl) rfl rfl ?_
    have h9 := loop (517 + 1) 0 (by omega) (by omega)
    rw [xt_cpy_0, show xt_sA (xt_sN (xt_sN S 49 0 (nI 0)) 49 3 (nI kp)) 50 (S.2.1 50) = (xt_sN (xt_sN S 49 0 (nI 0)) 49 3 (nI kp)) from xt_sA_self] at h9
    exact xt_fg (by repeat' constructor) h9
  · exact absurd c9 (by omega)
set_option maxRecDepth 20000 in
set_option maxHeartbeats 2000000 in
theorem ct_mundo_b (hu : S.1 49 3 = nI 0) : xt_Ct E l yX6_undo cX6_undo 2 (some Jvm.ClassFile.FieldType.int) 1 21 0 0 [.ref (E.1 49)] S (xt_Ep (some (.int (nI 0))) (xt_mr S 1)) := by
  refine xt_body (by decide +kernel) (xt_all rfl) (Nat.le_of_ble_eq_true rfl) (fun cx C hl9 => ?_)
  show xt_X E cx _ 0 0 0 [some (.ref (E.1 49)), none] [] S
  refine xt_aload_n C dX6_undo_0 rfl ?_
  refine xt_iconst (v := nI 0) C dX6_undo_1 rfl ?_
  refine xt_put (f := 0) C xt_u6 rfl (by decide) (xt_cl49 _ _) (by decide) tyX6 tyX6_ok nmX6 lkX6_74 rfl (tyX6_ok 0 (by decide)) rfl rfl (Nat.le_of_ble_eq_true rfl) rfl dX6_undo_2 ?_
  refine xt_aload_n C dX6_undo_5 rfl ?_
  refine xt_get (f := 3) C xt_u6 rfl (by decide) (xt_cl49 _ _) (by decide) lkX6_94 (xt_vI (by exact hu)) dX6_undo_6 ?_
  refine xt_if_neN (tgt := 18) C dX6_undo_9 (by decide) (by omega) (fun c9 => ?_) (fun c9 => ?_)
  · exact absurd c9 (by omega)
  · refine xt_aload_n C dX6_undo_12 rfl ?_
    refine xt_iconst (v := nI 1) C dX6_undo_13 rfl ?_
    refine xt_cV C mv_X6_raises lkX6_142 ct_mraises rfl (by decide) (xt_cl49 _ _) rfl (by decide) rfl (Nat.le_of_ble_eq_true rfl) dX6_undo_14 ?_
    exact xt_iret C dX6_undo_17 ⟨by decide, by decide⟩ ⟨rfl, xt_mr_x xt_mfr_rf⟩
set_option maxRecDepth 20000 in
set_option maxHeartbeats 2000000 in
theorem ct_msave {c r sd lv bo : Nat} (hM : xt_Mp S c r sd lv bo) : xt_Ct E l yX6_saveSnapshot cX6_saveSnapshot 2 (some Jvm.ClassFile.FieldType.int) 3 60 0 0 [.ref (E.1 49)] S (xt_Eq (some (.int (nI (xt_nt c r sd)))) (xt_sA (xt_sN (xt_sN S 49 0 (nI 0)) 49 5 (nI 1)) 52 (xt_cpy (S.2.1 52) (S.2.1 50) 0 517))) := by
  refine xt_body (by decide +kernel) (xt_all rfl) (Nat.le_of_ble_eq_true rfl) (fun cx C hl9 => ?_)
  show xt_X E cx _ 0 0 0 [some (.ref (E.1 49)), none] [] S
  have hM9 := hM
  obtain ⟨hc, hr, hs, hv, hb, b1, b2, b3, b4, b5, b6, b7⟩ := hM
  have loop : ∀ (d i : Nat), i ≤ 517 →  517 + 1 ≤ i + d → xt_X E cx (xt_ZM E cx 0 0 (xt_Eq (some (.int (nI (xt_nt c r sd)))) (xt_sA (xt_sN (xt_sN S 49 0 (nI 0)) 49 5 (nI 1)) 52 (xt_cpy (S.2.1 52) (S.2.1 50) 0 517)))) 0 0 12 [some (.ref (E.1 49)), some (.int (nI i))] [] (xt_sA (xt_sN (xt_sN S 49 0 (nI 0)) 49 5 (nI 1)) 52 (xt_cpy (S.2.1 52) (S.2.1 50) 0 i)) := by
    intro d
    induction d with
    | zero => intro i  h0i  h1i; exact absurd h1i (by omega)
    | succ d ih =>
      intro i  h0i  h1i
      refine xt_iload_n C dX6_saveSnapshot_12 rfl ?_
      refine xt_sipush (v := nI 517) C dX6_saveSnapshot_13 (by decide) ?_
      refine xt_icmp_geN (tgt := 37) C dX6_saveSnapshot_16 (by decide) (by omega) (by omega) (fun c16 => ?_) (fun c16 => ?_)
      · have hM2 : xt_Mp (xt_sA (xt_sN (xt_sN S 49 0 (nI 0)) 49 5 (nI 1)) 52 (xt_cpy (S.2.1 52) (S.2.1 50) 0 i)) c r sd lv bo := hM9
        refine xt_aload_n C dX6_saveSnapshot_37 rfl ?_
        refine xt_cV C mv_X6_tiles lkX6_91 (ct_mtiles (by exact hM2)) rfl (by decide) (xt_cl49 _ _) rfl (by decide) rfl (Nat.le_of_ble_eq_true rfl) dX6_saveSnapshot_38 ?_
        refine xt_iret C dX6_saveSnapshot_41 ⟨by decide, by decide⟩ ?_
        rw [show i = 517 by omega]
        exact ⟨rfl, rfl⟩
      · refine xt_aload_n C dX6_saveSnapshot_19 rfl ?_
        refine xt_get (f := 4) C xt_u6 rfl (by decide) (xt_cl49 _ _) (by decide) lkX6_16 rfl dX6_saveSnapshot_20 ?_
        refine xt_iload_n C dX6_saveSnapshot_23 rfl ?_
        refine xt_aload_n C dX6_saveSnapshot_24 rfl ?_
        refine xt_get (f := 1) C xt_u6 rfl (by decide) (xt_cl49 _ _) (by decide) lkX6_9 rfl dX6_saveSnapshot_25 ?_
        refine xt_iload_n C dX6_saveSnapshot_28 rfl ?_
        refine xt_ialdN C (by decide) (xt_cl50 _) (by omega) (by decide) (show (xt_sA (xt_sN (xt_sN S 49 0 (nI 0)) 49 5 (nI 1)) 52 (xt_cpy (S.2.1 52) (S.2.1 50) 0 i)).2.1 50 i = S.2.1 50 (0 + i) from by rw [Nat.zero_add]; exact congrFun (xt_sA_n (by decide)) _) dX6_saveSnapshot_29 ?_
        refine xt_iastN C (by decide) (xt_cl52 _) (by omega) (by decide) dX6_saveSnapshot_30 ?_
        rw [xt_sA_s, xt_sA_sA, xt_cpy_s]
        refine xt_iincN (z := 1) (lo' := [_, _]) C dX6_saveSnapshot_31 rfl rfl rfl ?_
        refine xt_goto (tgt := 12) C dX6_saveSnapshot_34 (by decide) ?_
        exact xt_fg (by repeat' constructor) (ih (i + 1) (by omega) (by omega))
  refine xt_aload_n C dX6_saveSnapshot_0 rfl ?_
  refine xt_iconst (v := nI 0) C dX6_saveSnapshot_1 rfl ?_
  refine xt_put (f := 0) C xt_u6 rfl (by decide) (xt_cl49 _ _) (by decide) tyX6 tyX6_ok nmX6 lkX6_74 rfl (tyX6_ok 0 (by decide)) rfl rfl (Nat.le_of_ble_eq_true rfl) rfl dX6_saveSnapshot_2 ?_
  refine xt_aload_n C dX6_saveSnapshot_5 rfl ?_
  refine xt_iconst (v := nI 1) C dX6_saveSnapshot_6 rfl ?_
  refine xt_put (f := 5) C xt_u6 rfl (by decide) (xt_cl49 _ _) (by decide) tyX6 tyX6_ok nmX6 lkX6_248 rfl (tyX6_ok 5 (by decide)) rfl rfl (Nat.le_of_ble_eq_true rfl) rfl dX6_saveSnapshot_7 ?_
  refine xt_iconst (v := nI 0) C dX6_saveSnapshot_10 rfl ?_
  refine xt_istore_n (lo' := [_, _]) C dX6_saveSnapshot_11 (Nat.le_of_ble_eq_true rfl) rfl rfl ?_
  have h9 := loop (517 + 1) 0 (by omega) (by omega)
  rw [xt_cpy_0, show xt_sA (xt_sN (xt_sN S 49 0 (nI 0)) 49 5 (nI 1)) 52 (S.2.1 52) = (xt_sN (xt_sN S 49 0 (nI 0)) 49 5 (nI 1)) from xt_sA_self] at h9
  exact xt_fg (by repeat' constructor) h9
def xt_Mg (g : Nat → Int32) (c r sd lv bo : Nat) : Prop := g 0 = nI c ∧ g 1 = nI r ∧ g 2 = nI sd ∧ g 3 = nI lv ∧ g 4 = nI bo ∧ (2 ≤ c ∧ c ≤ 16 ∧ 2 ≤ r ∧ r ≤ 16 ∧ (sd = 2 ∨ sd = 4 ∨ sd = 8) ∧ lv ≤ 3 ∧ bo ≤ 8)
set_option maxRecDepth 20000 in
set_option maxHeartbeats 2000000 in
theorem ct_mrestore {c r sd lv bo : Nat} (hG : xt_Mg (S.2.1 52) c r sd lv bo) (hs5 : S.1 49 5 = nI 1) : xt_Ct E l yX6_restoreSnapshot cX6_restoreSnapshot 2 (some Jvm.ClassFile.FieldType.int) 3 60 0 0 [.ref (E.1 49)] S (xt_Eq (some (.int (nI (xt_nt c r sd)))) (xt_sN (xt_sA (xt_sN S 49 0 (nI 0)) 50 (xt_cpy (S.2.1 50) (S.2.1 52) 0 517)) 49 3 (nI 0))) := by
  refine xt_body (by decide +kernel) (xt_all rfl) (Nat.le_of_ble_eq_true rfl) (fun cx C hl9 => ?_)
  show xt_X E cx _ 0 0 0 [some (.ref (E.1 49)), none] [] S
  have loop : ∀ (d i : Nat), i ≤ 517 →  517 + 1 ≤ i + d → xt_X E cx (xt_ZM E cx 0 0 (xt_Eq (some (.int (nI (xt_nt c r sd)))) (xt_sN (xt_sA (xt_sN S 49 0 (nI 0)) 50 (xt_cpy (S.2.1 50) (S.2.1 52) 0 517)) 49 3 (nI 0)))) 0 0 20 [some (.ref (E.1 49)), some (.int (nI i))] [] (xt_sA (xt_sN S 49 0 (nI 0)) 50 (xt_cpy (S.2.1 50) (S.2.1 52) 0 i)) := by
    intro d
    induction d with
    | zero => intro i  h0i  h1i; exact absurd h1i (by omega)
    | succ d ih =>
      intro i  h0i  h1i
      refine xt_iload_n C dX6_restoreSnapshot_20 rfl ?_
      refine xt_sipush (v := nI 517) C dX6_restoreSnapshot_21 (by decide) ?_
      refine xt_icmp_geN (tgt := 45) C dX6_restoreSnapshot_24 (by decide) (by omega) (by omega) (fun c24 => ?_) (fun c24 => ?_)
      · have hi9 : i = 517 := by omega
        subst hi9
        have hM2 : xt_Mp (xt_sN (xt_sA (xt_sN S 49 0 (nI 0)) 50 (xt_cpy (S.2.1 50) (S.2.1 52) 0 517)) 49 3 (nI 0)) c r sd lv bo := by
          unfold xt_Mp
          rw [show (xt_sN (xt_sA (xt_sN S 49 0 (nI 0)) 50 (xt_cpy (S.2.1 50) (S.2.1 52) 0 517)) 49 3 (nI 0)).2.1 50 = xt_cpy (S.2.1 50) (S.2.1 52) 0 517 from xt_sA_s]
          exact hG
        refine xt_aload_n C dX6_restoreSnapshot_45 rfl ?_
        refine xt_iconst (v := nI 0) C dX6_restoreSnapshot_46 rfl ?_
        refine xt_put (f := 3) C xt_u6 rfl (by decide) (xt_cl49 _ _) (by decide) tyX6 tyX6_ok nmX6 lkX6_94 rfl (tyX6_ok 3 (by decide)) rfl rfl (Nat.le_of_ble_eq_true rfl) rfl dX6_restoreSnapshot_47 ?_
        refine xt_aload_n C dX6_restoreSnapshot_50 rfl ?_
        refine xt_cV C mv_X6_tiles lkX6_91 (ct_mtiles (by exact hM2)) rfl (by decide) (xt_cl49 _ _) rfl (by decide) rfl (Nat.le_of_ble_eq_true rfl) dX6_restoreSnapshot_51 ?_
        exact xt_iret C dX6_restoreSnapshot_54 ⟨by decide, by decide⟩ ⟨rfl, rfl⟩
      · refine xt_aload_n C dX6_restoreSnapshot_27 rfl ?_
        refine xt_get (f := 1) C xt_u6 rfl (by decide) (xt_cl49 _ _) (by decide) lkX6_9 rfl dX6_restoreSnapshot_28 ?_
        refine xt_iload_n C dX6_restoreSnapshot_31 rfl ?_
        refine xt_aload_n C dX6_restoreSnapshot_32 rfl ?_
        refine xt_get (f := 4) C xt_u6 rfl (by decide) (xt_cl49 _ _) (by decide) lkX6_16 rfl dX6_restoreSnapshot_33 ?_
        refine xt_iload_n C dX6_restoreSnapshot_36 rfl ?_
        refine xt_ialdN C (by decide) (xt_cl52 _) (by omega) (by decide) (show (xt_sA (xt_sN S 49 0 (nI 0)) 50 (xt_cpy (S.2.1 50) (S.2.1 52) 0 i)).2.1 52 i = S.2.1 52 (0 + i) from by rw [Nat.zero_add]; exact congrFun (xt_sA_n (by decide)) _) dX6_restoreSnapshot_37 ?_
        refine xt_iastN C (by decide) (xt_cl50 _) (by omega) (by decide) dX6_restoreSnapshot_38 ?_
        rw [xt_sA_s, xt_sA_sA, xt_cpy_s]
        refine xt_iincN (z := 1) (lo' := [_, _]) C dX6_restoreSnapshot_39 rfl rfl rfl ?_
        refine xt_goto (tgt := 20) C dX6_restoreSnapshot_42 (by decide) ?_
        exact xt_fg (by repeat' constructor) (ih (i + 1) (by omega) (by omega))
  refine xt_aload_n C dX6_restoreSnapshot_0 rfl ?_
  refine xt_iconst (v := nI 0) C dX6_restoreSnapshot_1 rfl ?_
  refine xt_put (f := 0) C xt_u6 rfl (by decide) (xt_cl49 _ _) (by decide) tyX6 tyX6_ok nmX6 lkX6_74 rfl (tyX6_ok 0 (by decide)) rfl rfl (Nat.le_of_ble_eq_true rfl) rfl dX6_restoreSnapshot_2 ?_
  refine xt_aload_n C dX6_restoreSnapshot_5 rfl ?_
  refine xt_get (f := 5) C xt_u6 rfl (by decide) (xt_cl49 _ _) (by decide) lkX6_248 (xt_vI (by exact hs5)) dX6_restoreSnapshot_6 ?_
  refine xt_if_neN (tgt := 18) C dX6_restoreSnapshot_9 (by decide) (by omega) (fun c9 => ?_) (fun c9 => ?_)
  · refine xt_iconst (v := nI 0) C dX6_restoreSnapshot_18 rfl ?_
    refine xt_istore_n (lo' := [_, _]) C dX6_restoreSnapshot_19 (Nat.le_of_ble_eq_true rfl) rfl rfl ?_
    have h9 := loop (517 + 1) 0 (by omega) (by omega)
    rw [xt_cpy_0, show xt_sA (xt_sN S 49 0 (nI 0)) 50 (S.2.1 50) = (xt_sN S 49 0 (nI 0)) from xt_sA_self] at h9
    exact xt_fg (by repeat' constructor) h9
  · exact absurd c9 (by omega)
set_option maxRecDepth 20000 in
set_option maxHeartbeats 2000000 in
theorem ct_mrestore_b (hs5 : S.1 49 5 = nI 0) : xt_Ct E l yX6_restoreSnapshot cX6_restoreSnapshot 2 (some Jvm.ClassFile.FieldType.int) 3 60 0 0 [.ref (E.1 49)] S (xt_Ep (some (.int (nI 0))) (xt_mr S 1)) := by
  refine xt_body (by decide +kernel) (xt_all rfl) (Nat.le_of_ble_eq_true rfl) (fun cx C hl9 => ?_)
  show xt_X E cx _ 0 0 0 [some (.ref (E.1 49)), none] [] S
  refine xt_aload_n C dX6_restoreSnapshot_0 rfl ?_
  refine xt_iconst (v := nI 0) C dX6_restoreSnapshot_1 rfl ?_
  refine xt_put (f := 0) C xt_u6 rfl (by decide) (xt_cl49 _ _) (by decide) tyX6 tyX6_ok nmX6 lkX6_74 rfl (tyX6_ok 0 (by decide)) rfl rfl (Nat.le_of_ble_eq_true rfl) rfl dX6_restoreSnapshot_2 ?_
  refine xt_aload_n C dX6_restoreSnapshot_5 rfl ?_
  refine xt_get (f := 5) C xt_u6 rfl (by decide) (xt_cl49 _ _) (by decide) lkX6_248 (xt_vI (by exact hs5)) dX6_restoreSnapshot_6 ?_
  refine xt_if_neN (tgt := 18) C dX6_restoreSnapshot_9 (by decide) (by omega) (fun c9 => ?_) (fun c9 => ?_)
  · exact absurd c9 (by omega)
  · refine xt_aload_n C dX6_restoreSnapshot_12 rfl ?_
    refine xt_iconst (v := nI 1) C dX6_restoreSnapshot_13 rfl ?_
    refine xt_cV C mv_X6_raises lkX6_142 ct_mraises rfl (by decide) (xt_cl49 _ _) rfl (by decide) rfl (Nat.le_of_ble_eq_true rfl) dX6_restoreSnapshot_14 ?_
    exact xt_iret C dX6_restoreSnapshot_17 ⟨by decide, by decide⟩ ⟨rfl, xt_mr_x xt_mfr_rf⟩
end XM13
