/-! THE MODEL: doubts -/
section XM12
variable {E : xt_Ev} {l : Launch} {S : xt_St}
theorem xt_dvh {x : Int32} (h : ∃ m, m ≤ 1000000 ∧ x = nI m) : (x + nI 1) / nI 2 = xt_half (x + nI 1) := by
  obtain ⟨m, hm, rfl⟩ := h
  unfold xt_half
  rw [nI_add, pk_div (by omega) (by decide) (by decide), pk_shrN (by omega) _ 1 (by decide)]
def xt_nB (B : Nat) (g : Nat → Int32) : Prop := ∀ p, p < 64 → ∃ m, m ≤ B ∧ g p = nI m
theorem xt_jl_b {n i B : Nat} {g : Nat → Int32} (hB : 1 ≤ B) (hB2 : B ≤ 100000) (hl : ∀ j, j < n → ∃ m, m ≤ B ∧ g j = nI m) (hi : ∃ m, m ≤ B ∧ g i = nI m) : ∃ m, m ≤ 2 * B ∧ xt_jl 1 n g i = nI m := by
  have e := xt_lo1 (n := n)
  unfold xt_jl
  by_cases a : n ≤ i
  · rw [if_pos a]
    obtain ⟨m, hm, em⟩ := hi
    exact ⟨m, by omega, em⟩
  rw [if_neg a]
  by_cases b : 2 * (i / 2) + 1 < n
  · rw [if_pos b, if_pos (Or.inr (by decide))]
    obtain ⟨m1, h1, e1⟩ := hl (i / 2) (by omega)
    obtain ⟨m2, h2, e2⟩ := hl (xt_lo n 1 + i / 2) (by omega)
    rw [e1, e2]
    unfold xt_half
    rw [nI_add, pk_shrN (by omega) _ 1 (by decide), nI_add]
    exact ⟨_, by omega, rfl⟩
  · rw [if_neg b]
    obtain ⟨m1, h1, e1⟩ := hl (i / 2) (by omega)
    exact ⟨m1, by omega, e1⟩
theorem xt_nB_R {n y B : Nat} {g : Nat → Int32} (hn : n ≤ 8) (hB : 1 ≤ B) (hB2 : B ≤ 100000) (hg : xt_nB B g) : xt_nB (2 * B) (xt_R (xt_jl 1 n) y g) := by
  intro p hp
  unfold xt_R
  by_cases z : p / 8 < y
  · rw [if_pos z]
    exact xt_jl_b hB hB2 (fun j hj => hg _ (by omega)) (hg _ (by omega))
  · rw [if_neg z]
    obtain ⟨m, hm, em⟩ := hg p hp
    exact ⟨m, by omega, em⟩
theorem xt_nB_C {n x B : Nat} {g : Nat → Int32} (hn : n ≤ 8) (hB : 1 ≤ B) (hB2 : B ≤ 100000) (hg : xt_nB B g) : xt_nB (2 * B) (xt_C (xt_jl 1 n) x g) := by
  intro p hp
  unfold xt_C
  by_cases z : p % 8 < x
  · rw [if_pos z]
    exact xt_jl_b hB hB2 (fun j hj => hg _ (by omega)) (hg _ (by omega))
  · rw [if_neg z]
    obtain ⟨m, hm, em⟩ := hg p hp
    exact ⟨m, by omega, em⟩
theorem xt_nB_w {A B : Nat} {g : Nat → Int32} (h : A ≤ B) (hg : xt_nB A g) : xt_nB B g := fun p hp => by
  obtain ⟨m, hm, em⟩ := hg p hp
  exact ⟨m, by omega, em⟩
def xt_m9 (x : Int32) : Nat := if x = nI 0 then 0 else 1
def xt_ql (m bo n k : Nat) : Nat := xt_it (fun p s => if n ≤ xt_lay m bo p then s + 1 else s) k 0
theorem xt_ql1 {m bo n p : Nat} (h : n ≤ xt_lay m bo p) : xt_ql m bo n (p + 1) = xt_ql m bo n p + 1 := if_pos h
theorem xt_ql0 {m bo n p : Nat} (h : xt_lay m bo p < n) : xt_ql m bo n (p + 1) = xt_ql m bo n p := if_neg (by omega)
theorem xt_ql_le {m bo n : Nat} : ∀ k, xt_ql m bo n k ≤ k := by
  intro k
  induction k with
  | zero => exact Nat.le_refl _
  | succ k ih =>
    by_cases z : n ≤ xt_lay m bo k
    · rw [xt_ql1 z]; omega
    · rw [xt_ql0 (by omega)]; omega
theorem xt_ql_e {m bo n : Nat} (hm : m ≤ 1) (hb : bo ≤ 8) (hn : n ≤ 9) : xt_ql m bo n 9 = xt_mis m bo n := by
  have h := co_dec (N := 180) (P := fun i => xt_ql (i / 90) (i % 90 / 10) (i % 10) 9 = xt_mis (i / 90) (i % 90 / 10) (i % 10)) (by decide +kernel) (show 90 * m + 10 * bo + n < 180 by omega)
  rw [show (90 * m + 10 * bo + n) / 90 = m by omega, show (90 * m + 10 * bo + n) % 90 / 10 = bo by omega, show (90 * m + 10 * bo + n) % 10 = n by omega] at h
  exact h
set_option maxRecDepth 20000 in
set_option maxHeartbeats 2000000 in
theorem ct_mlayer9 {p bo : Nat} (hp : p < 64) (hb4 : S.2.1 50 4 = nI bo) (hbo : bo ≤ 8) {pl : Nat} (hpl : pl ≤ 8) : xt_Ct E l yX6_layer cX6_layer 3 (some Jvm.ClassFile.FieldType.int) 1 21 0 0 [.ref (E.1 49), .int (nI p), .int (nI pl)] S (xt_Eq (some (.int (nI (xt_lay (xt_m9 (S.2.1 60 p)) bo pl)))) S) := by
  refine xt_body (by decide +kernel) (xt_all rfl) (Nat.le_of_ble_eq_true rfl) (fun cx C hl9 => ?_)
  show xt_X E cx _ 0 0 0 [some (.ref (E.1 49)), some (.int (nI p)), some (.int (nI pl))] [] S
  refine xt_aload_n C dX6_layer_0 rfl ?_
  refine xt_get (f := 22) C xt_u6 rfl (by decide) (xt_cl49 _ _) (by decide) lkX6_47 rfl dX6_layer_1 ?_
  refine xt_iload_n C dX6_layer_4 rfl ?_
  refine xt_zaldN C (by decide) (xt_cl60 _) (by omega) (by decide) rfl dX6_layer_5 ?_
  refine xt_if_eq (tgt := 27) C dX6_layer_6 (by decide) (fun c6 => ?_) (fun c6 => ?_)
  · have hm : xt_m9 (S.2.1 60 p) = 0 := if_pos c6
    refine xt_bipush (v := nI 8) C dX6_layer_27 (by decide) ?_
    refine xt_iload_n C dX6_layer_29 rfl ?_
    refine xt_isubN C dX6_layer_30 (by omega) ?_
    refine xt_iret C dX6_layer_31 ⟨by decide, by decide⟩ ?_
    first
    | exact xt_qI (by unfold xt_lay; rw [if_pos (by omega)])
    | exact xt_qI (by unfold xt_lay; rw [if_neg (by omega)])
  · have hm : xt_m9 (S.2.1 60 p) = 1 := if_neg c6
    refine xt_iconst (v := nI 0) C dX6_layer_9 rfl ?_
    refine xt_bipush (v := nI 8) C dX6_layer_10 (by decide) ?_
    refine xt_iload_n C dX6_layer_12 rfl ?_
    refine xt_isubN C dX6_layer_13 (by omega) ?_
    refine xt_aload_n C dX6_layer_14 rfl ?_
    refine xt_get (f := 1) C xt_u6 rfl (by decide) (xt_cl49 _ _) (by decide) lkX6_9 rfl dX6_layer_15 ?_
    refine xt_iconst (v := nI 4) C dX6_layer_18 rfl ?_
    refine xt_ialdN C (by decide) (xt_cl50 _) (by decide) (by decide) hb4 dX6_layer_19 ?_
    refine xt_isub C dX6_layer_20 ?_
    refine xt_mmax C lkX6_126 mw_max rfl ⟨by decide, Nat.le_of_ble_eq_true rfl, by decide, by decide⟩ dX6_layer_21 ?_
    rw [xt_m0s (by omega) (by omega)]
    refine xt_goto (tgt := 31) C dX6_layer_24 (by decide) ?_
    refine xt_iret C dX6_layer_31 ⟨by decide, by decide⟩ ?_
    first
    | exact xt_qI (by unfold xt_lay; rw [if_pos (by omega)])
    | exact xt_qI (by unfold xt_lay; rw [if_neg (by omega)])
set_option maxRecDepth 20000 in
set_option maxHeartbeats 2000000 in
theorem ct_mjoinsDoubts {s t n : Nat} (hn : n ≤ 8) (hn1 : 1 ≤ n) (ht : 0 < t) (hb : ∀ i, i < n → s + i * t < 64) (hpos : ∀ j, j < n → ∃ m, m ≤ 1000000 ∧ S.2.1 61 (s + j * t) = nI m) : xt_Ct E l yX6_joinsDoubts cX6_joinsDoubts 6 none 0 0 0 0 [.ref (E.1 49), .int (nI s), .int (nI t), .int (nI n)] S (xt_Ep none (fun S9 => ∃ r9 f9, S9 = xt_sA (xt_sA S 62 r9) 61 f9 ∧ xt_pt s t n (S.2.1 61) f9 (fun _ => True) (xt_jl 1 n (fun j => S.2.1 61 (s + j * t))))) := by
  refine xt_body (by decide +kernel) (xt_all rfl) (Nat.le_of_ble_eq_true rfl) (fun cx C hl9 => ?_)
  show xt_X E cx _ 0 0 0 [some (.ref (E.1 49)), some (.int (nI s)), some (.int (nI t)), some (.int (nI n)), none, none] [] S
  have hlo : xt_lo n 1 ≤ n := xt_lo_le (by omega)
  have hlo2 : n ≤ 2 * xt_lo n 1 ∧ 2 * xt_lo n 1 ≤ n + 1 := by unfold xt_lo; omega
  have loop2 : ∀ (d i : Nat) (f : Nat → Int32), i ≤ n → xt_pt s t n (S.2.1 61) f (fun j => j < i) (xt_jl 1 n (fun j => S.2.1 61 (s + j * t))) → n + 1 ≤ i + d → xt_X E cx (xt_ZM E cx 0 0 (xt_Ep none (fun S9 => ∃ r9 f9, S9 = xt_sA (xt_sA S 62 r9) 61 f9 ∧ xt_pt s t n (S.2.1 61) f9 (fun _ => True) (xt_jl 1 n (fun j => S.2.1 61 (s + j * t)))))) 0 0 43 [some (.ref (E.1 49)), some (.int (nI s)), some (.int (nI t)), some (.int (nI n)), some (.int (nI (xt_lo n 1))), some (.int (nI i))] [] (xt_sA (xt_sA S 62 (xt_take (S.2.1 62) (S.2.1 61) s t n)) 61 f) := by
    intro d
    induction d with
    | zero => intro i f h0i hf h1i; exact absurd h1i (by omega)
    | succ d ih =>
      intro i f h0i hf h1i
      refine xt_iload C dX6_joinsDoubts_43 rfl ?_
      refine xt_iload_n C dX6_joinsDoubts_45 rfl ?_
      refine xt_icmp_geN (tgt := 119) C dX6_joinsDoubts_46 (by decide) (by omega) (by omega) (fun c46 => ?_) (fun c46 => ?_)
      · exact xt_vret C dX6_joinsDoubts_119 ⟨by decide, by decide⟩ ⟨rfl, _, _, rfl, xt_pt_iff hf (fun j hj => ⟨fun _ => trivial, fun _ => by omega⟩)⟩
      · refine xt_aload_n C dX6_joinsDoubts_49 rfl ?_
        refine xt_get (f := 23) C xt_u6 rfl (by decide) (xt_cl49 _ _) (by decide) lkX6_51 rfl dX6_joinsDoubts_50 ?_
        refine xt_iload_n C dX6_joinsDoubts_53 rfl ?_
        refine xt_iload_n C dX6_joinsDoubts_54 rfl ?_
        refine xt_iload C dX6_joinsDoubts_55 rfl ?_
        refine xt_imulN C dX6_joinsDoubts_57 ?_
        rw [Nat.mul_comm t i]
        refine xt_iaddN C dX6_joinsDoubts_58 ?_
        refine xt_iload_n C dX6_joinsDoubts_59 rfl ?_
        refine xt_iconst (v := nI 2) C dX6_joinsDoubts_60 rfl ?_
        refine xt_iremN C dX6_joinsDoubts_61 (by omega) (by omega) (by omega) ?_
        refine xt_iconst (v := nI 1) C dX6_joinsDoubts_62 rfl ?_
        refine xt_icmp_neN (tgt := 86) C dX6_joinsDoubts_63 (by decide) (by omega) (by omega) (fun c63 => ?_) (fun c63 => ?_)
        · have hF9 : (xt_jl 1 n (fun j => S.2.1 61 (s + j * t))) i = S.2.1 61 (s + (i / 2) * t) + xt_half (S.2.1 61 (s + (xt_lo n 1 + i / 2) * t) + nI 1) := by
            unfold xt_jl
            rw [if_neg (by omega), if_pos (by omega), if_pos (Or.inr (by decide))]
          refine xt_aload_n C dX6_joinsDoubts_86 rfl ?_
          refine xt_get (f := 24) C xt_u6 rfl (by decide) (xt_cl49 _ _) (by decide) lkX6_54 rfl dX6_joinsDoubts_87 ?_
          refine xt_iload C dX6_joinsDoubts_90 rfl ?_
          refine xt_iconst (v := nI 2) C dX6_joinsDoubts_92 rfl ?_
          refine xt_idivN C dX6_joinsDoubts_93 (by omega) (by omega) (by omega) ?_
          refine xt_ialdN C (by decide) (xt_cl62 _) (by omega) (by decide) (show _ = S.2.1 61 (s + (i / 2) * t) from by rw [xt_sA_n (by decide), xt_sA_s]; exact xt_take_at (by omega)) dX6_joinsDoubts_94 ?_
          refine xt_aload_n C dX6_joinsDoubts_95 rfl ?_
          refine xt_get (f := 24) C xt_u6 rfl (by decide) (xt_cl49 _ _) (by decide) lkX6_54 rfl dX6_joinsDoubts_96 ?_
          refine xt_iload C dX6_joinsDoubts_99 rfl ?_
          refine xt_iload C dX6_joinsDoubts_101 rfl ?_
          refine xt_iconst (v := nI 2) C dX6_joinsDoubts_103 rfl ?_
          refine xt_idivN C dX6_joinsDoubts_104 (by omega) (by omega) (by omega) ?_
          refine xt_iaddN C dX6_joinsDoubts_105 ?_
          refine xt_ialdN C (by decide) (xt_cl62 _) (by omega) (by decide) (show _ = S.2.1 61 (s + (xt_lo n 1 + i / 2) * t) from by rw [xt_sA_n (by decide), xt_sA_s]; exact xt_take_at (by omega)) dX6_joinsDoubts_106 ?_
          refine xt_iconst (v := nI 1) C dX6_joinsDoubts_107 rfl ?_
          refine xt_iadd C dX6_joinsDoubts_108 ?_
          refine xt_iconst (v := nI 2) C dX6_joinsDoubts_109 rfl ?_
          refine xt_idiv C dX6_joinsDoubts_110 (by decide) ?_
          rw [xt_dvh (hpos (xt_lo n 1 + i / 2) (by omega))]
          refine xt_iadd C dX6_joinsDoubts_111 ?_
          refine xt_iastN C (by decide) (xt_cl61 _) (hb _ (by omega)) (by decide) dX6_joinsDoubts_112 ?_
          rw [xt_sA_s, xt_sA_sA]
          refine xt_iincN (z := 1) (lo' := [_, _, _, _, _, _]) C dX6_joinsDoubts_113 rfl rfl rfl ?_
          refine xt_goto (tgt := 43) C dX6_joinsDoubts_116 (by decide) ?_
          exact xt_fg (by repeat' constructor) (ih (i + 1) _ (by omega) (xt_pt_iff (xt_pt_put ht (k := i) (by omega) hF9 hf) (fun j hj => by omega)) (by omega))
        · refine xt_iload C dX6_joinsDoubts_66 rfl ?_
          refine xt_iload_n C dX6_joinsDoubts_68 rfl ?_
          refine xt_iconst (v := nI 1) C dX6_joinsDoubts_69 rfl ?_
          refine xt_isubN C dX6_joinsDoubts_70 (by omega) ?_
          refine xt_icmp_neN (tgt := 86) C dX6_joinsDoubts_71 (by decide) (by omega) (by omega) (fun c71 => ?_) (fun c71 => ?_)
          · have hF9 : (xt_jl 1 n (fun j => S.2.1 61 (s + j * t))) i = S.2.1 61 (s + (i / 2) * t) + xt_half (S.2.1 61 (s + (xt_lo n 1 + i / 2) * t) + nI 1) := by
              unfold xt_jl
              rw [if_neg (by omega), if_pos (by omega), if_pos (Or.inr (by decide))]
            refine xt_aload_n C dX6_joinsDoubts_86 rfl ?_
            refine xt_get (f := 24) C xt_u6 rfl (by decide) (xt_cl49 _ _) (by decide) lkX6_54 rfl dX6_joinsDoubts_87 ?_
            refine xt_iload C dX6_joinsDoubts_90 rfl ?_
            refine xt_iconst (v := nI 2) C dX6_joinsDoubts_92 rfl ?_
            refine xt_idivN C dX6_joinsDoubts_93 (by omega) (by omega) (by omega) ?_
            refine xt_ialdN C (by decide) (xt_cl62 _) (by omega) (by decide) (show _ = S.2.1 61 (s + (i / 2) * t) from by rw [xt_sA_n (by decide), xt_sA_s]; exact xt_take_at (by omega)) dX6_joinsDoubts_94 ?_
            refine xt_aload_n C dX6_joinsDoubts_95 rfl ?_
            refine xt_get (f := 24) C xt_u6 rfl (by decide) (xt_cl49 _ _) (by decide) lkX6_54 rfl dX6_joinsDoubts_96 ?_
            refine xt_iload C dX6_joinsDoubts_99 rfl ?_
            refine xt_iload C dX6_joinsDoubts_101 rfl ?_
            refine xt_iconst (v := nI 2) C dX6_joinsDoubts_103 rfl ?_
            refine xt_idivN C dX6_joinsDoubts_104 (by omega) (by omega) (by omega) ?_
            refine xt_iaddN C dX6_joinsDoubts_105 ?_
            refine xt_ialdN C (by decide) (xt_cl62 _) (by omega) (by decide) (show _ = S.2.1 61 (s + (xt_lo n 1 + i / 2) * t) from by rw [xt_sA_n (by decide), xt_sA_s]; exact xt_take_at (by omega)) dX6_joinsDoubts_106 ?_
            refine xt_iconst (v := nI 1) C dX6_joinsDoubts_107 rfl ?_
            refine xt_iadd C dX6_joinsDoubts_108 ?_
            refine xt_iconst (v := nI 2) C dX6_joinsDoubts_109 rfl ?_
            refine xt_idiv C dX6_joinsDoubts_110 (by decide) ?_
            rw [xt_dvh (hpos (xt_lo n 1 + i / 2) (by omega))]
            refine xt_iadd C dX6_joinsDoubts_111 ?_
            refine xt_iastN C (by decide) (xt_cl61 _) (hb _ (by omega)) (by decide) dX6_joinsDoubts_112 ?_
            rw [xt_sA_s, xt_sA_sA]
            refine xt_iincN (z := 1) (lo' := [_, _, _, _, _, _]) C dX6_joinsDoubts_113 rfl rfl rfl ?_
            refine xt_goto (tgt := 43) C dX6_joinsDoubts_116 (by decide) ?_
            exact xt_fg (by repeat' constructor) (ih (i + 1) _ (by omega) (xt_pt_iff (xt_pt_put ht (k := i) (by omega) hF9 hf) (fun j hj => by omega)) (by omega))
          · have hF9 : (xt_jl 1 n (fun j => S.2.1 61 (s + j * t))) i = S.2.1 61 (s + (xt_lo n 1 - 1) * t) := by
              unfold xt_jl
              rw [if_neg (by omega), if_neg (by omega), show i / 2 = xt_lo n 1 - 1 by omega]
            refine xt_aload_n C dX6_joinsDoubts_74 rfl ?_
            refine xt_get (f := 24) C xt_u6 rfl (by decide) (xt_cl49 _ _) (by decide) lkX6_54 rfl dX6_joinsDoubts_75 ?_
            refine xt_iload C dX6_joinsDoubts_78 rfl ?_
            refine xt_iconst (v := nI 1) C dX6_joinsDoubts_80 rfl ?_
            refine xt_isubN C dX6_joinsDoubts_81 (by omega) ?_
            refine xt_ialdN C (by decide) (xt_cl62 _) (by omega) (by decide) (show _ = S.2.1 61 (s + (xt_lo n 1 - 1) * t) from by rw [xt_sA_n (by decide), xt_sA_s]; exact xt_take_at (by omega)) dX6_joinsDoubts_82 ?_
            refine xt_goto (tgt := 112) C dX6_joinsDoubts_83 (by decide) ?_
            refine xt_iastN C (by decide) (xt_cl61 _) (hb _ (by omega)) (by decide) dX6_joinsDoubts_112 ?_
            rw [xt_sA_s, xt_sA_sA]
            refine xt_iincN (z := 1) (lo' := [_, _, _, _, _, _]) C dX6_joinsDoubts_113 rfl rfl rfl ?_
            refine xt_goto (tgt := 43) C dX6_joinsDoubts_116 (by decide) ?_
            exact xt_fg (by repeat' constructor) (ih (i + 1) _ (by omega) (xt_pt_iff (xt_pt_put ht (k := i) (by omega) hF9 hf) (fun j hj => by omega)) (by omega))
  have loop1 : ∀ (d i : Nat), i ≤ n →  n + 1 ≤ i + d → xt_X E cx (xt_ZM E cx 0 0 (xt_Ep none (fun S9 => ∃ r9 f9, S9 = xt_sA (xt_sA S 62 r9) 61 f9 ∧ xt_pt s t n (S.2.1 61) f9 (fun _ => True) (xt_jl 1 n (fun j => S.2.1 61 (s + j * t)))))) 0 0 10 [some (.ref (E.1 49)), some (.int (nI s)), some (.int (nI t)), some (.int (nI n)), some (.int (nI (xt_lo n 1))), some (.int (nI i))] [] (xt_sA S 62 (xt_take (S.2.1 62) (S.2.1 61) s t i)) := by
    intro d
    induction d with
    | zero => intro i  h0i  h1i; exact absurd h1i (by omega)
    | succ d ih =>
      intro i  h0i  h1i
      refine xt_iload C dX6_joinsDoubts_10 rfl ?_
      refine xt_iload_n C dX6_joinsDoubts_12 rfl ?_
      refine xt_icmp_geN (tgt := 40) C dX6_joinsDoubts_13 (by decide) (by omega) (by omega) (fun c13 => ?_) (fun c13 => ?_)
      · refine xt_iconst (v := nI 0) C dX6_joinsDoubts_40 rfl ?_
        refine xt_istore (lo' := [_, _, _, _, _, _]) C dX6_joinsDoubts_41 (Nat.le_of_ble_eq_true rfl) rfl rfl ?_
        have hi9 : i = n := by omega
        subst hi9
        have h9 := loop2 (i + 1) 0 (S.2.1 61) (by omega) (xt_pt_iff xt_pt_0 (fun j hj => ⟨False.elim, fun h => by omega⟩)) (by omega)
        rw [show xt_sA (xt_sA S 62 (xt_take (S.2.1 62) (S.2.1 61) s t i)) 61 (S.2.1 61) = xt_sA S 62 (xt_take (S.2.1 62) (S.2.1 61) s t i) from xt_s2k] at h9
        exact xt_fg (by repeat' constructor) h9
      · refine xt_aload_n C dX6_joinsDoubts_16 rfl ?_
        refine xt_get (f := 24) C xt_u6 rfl (by decide) (xt_cl49 _ _) (by decide) lkX6_54 rfl dX6_joinsDoubts_17 ?_
        refine xt_iload C dX6_joinsDoubts_20 rfl ?_
        refine xt_aload_n C dX6_joinsDoubts_22 rfl ?_
        refine xt_get (f := 23) C xt_u6 rfl (by decide) (xt_cl49 _ _) (by decide) lkX6_51 rfl dX6_joinsDoubts_23 ?_
        refine xt_iload_n C dX6_joinsDoubts_26 rfl ?_
        refine xt_iload_n C dX6_joinsDoubts_27 rfl ?_
        refine xt_iload C dX6_joinsDoubts_28 rfl ?_
        refine xt_imulN C dX6_joinsDoubts_30 ?_
        rw [Nat.mul_comm t i]
        refine xt_iaddN C dX6_joinsDoubts_31 ?_
        refine xt_ialdN C (by decide) (xt_cl61 _) (hb i (by omega)) (by decide) (show _ = S.2.1 61 (s + i * t) from by rw [xt_sA_n (by decide)]) dX6_joinsDoubts_32 ?_
        refine xt_iastN C (by decide) (xt_cl62 _) (by omega) (by decide) dX6_joinsDoubts_33 ?_
        rw [xt_sA_s, xt_sA_sA, xt_take_s]
        refine xt_iincN (z := 1) (lo' := [_, _, _, _, _, _]) C dX6_joinsDoubts_34 rfl rfl rfl ?_
        refine xt_goto (tgt := 10) C dX6_joinsDoubts_37 (by decide) ?_
        exact xt_fg (by repeat' constructor) (ih (i + 1) (by omega) (by omega))
  refine xt_iload_n C dX6_joinsDoubts_0 rfl ?_
  refine xt_iconst (v := nI 1) C dX6_joinsDoubts_1 rfl ?_
  refine xt_iaddN C dX6_joinsDoubts_2 ?_
  refine xt_iconst (v := nI 2) C dX6_joinsDoubts_3 rfl ?_
  refine xt_idivN C dX6_joinsDoubts_4 (by omega) (by omega) (by omega) ?_
  rw [xt_lo1]
  refine xt_istore (lo' := [_, _, _, _, _, _]) C dX6_joinsDoubts_5 (Nat.le_of_ble_eq_true rfl) rfl rfl ?_
  refine xt_iconst (v := nI 0) C dX6_joinsDoubts_7 rfl ?_
  refine xt_istore (lo' := [_, _, _, _, _, _]) C dX6_joinsDoubts_8 (Nat.le_of_ble_eq_true rfl) rfl rfl ?_
  have h9 := loop1 (n + 1) 0 (by omega) (by omega)
  rw [xt_take_0, xt_sA_self] at h9
  exact xt_fg (by repeat' constructor) h9
set_option maxRecDepth 20000 in
set_option maxHeartbeats 2000000 in
theorem ct_bound {c r sd lv bo : Nat} (hM : xt_Mp S c r sd lv bo) {t : Nat} (ht : t < xt_nt c r sd) {v k : Nat → Int32} (hL : xt_ML S c r sd lv t v k) {n : Nat} (hn9 : n ≤ 9) : xt_Ct E l yX6_bound cX6_bound 5 (some Jvm.ClassFile.FieldType.int) 2 43 0 0 [.ref (E.1 49), .int (nI n)] S (xt_Ep (some (.int (xt_tU c r sd lv bo t n k))) (fun S9 => xt_mfr S S9)) := by
  refine xt_body (by decide +kernel) (xt_all rfl) (Nat.le_of_ble_eq_true rfl) (fun cx C hl9 => ?_)
  show xt_X E cx _ 0 0 0 [some (.ref (E.1 49)), some (.int (nI n)), none, none, none] [] S
  have hM9 := hM
  obtain ⟨hc, hr, hs, hv, hb, b1, b2, b3, b4, b5, b6, b7⟩ := hM
  have hn := xt_nt_b ⟨b1, b2⟩ ⟨b3, b4⟩ b5
  have hT := xt_tile_b ⟨b1, b2⟩ ⟨b3, b4⟩ b5 ht
  have hdl : (xt_tD c r sd lv t) ≤ 3 := xt_dep_le.2
  have hMt := hL.1
  obtain ⟨m1, m2, m3, m4, g1, g2, g3, g4, g5, g6, g7⟩ := id hMt
  have hm0x : ∀ p, xt_in (xt_gw c sd t) (xt_gh c r sd t) p → xt_m9 (S.2.1 60 p) = xt_tM c r sd lv t k p := by
    intro p hp
    obtain ⟨p1, p2⟩ := hp
    have h9 := (hL.2 (p / 8) (p % 8) p2 p1).2
    rw [show 8 * (p / 8) + p % 8 = p by omega] at h9
    have h8 := xt_tM_le (c := c) (r := r) (sd := sd) (pl := lv) (t := t) (p := p) (k := k)
    rw [h9]
    unfold xt_m9
    by_cases z : xt_tM c r sd lv t k p = 0
    · rw [z, if_pos rfl]
    · rw [if_neg (fun q => z ((nI_eq (by omega) (by decide)).mp q))]; omega
  have loopJ0 : ∀ (f0 : Nat → Int32), xt_ag (xt_gw c sd t) (xt_gh c r sd t) f0 (fun p => nI (1 * 2 ^ xt_mis (xt_tM c r sd lv t k p) bo n - 1)) → ∀ (T : xt_St), (xt_mfr S T) → (xt_Mt T (xt_gl c sd t) (xt_gt c sd t) (xt_gw c sd t) (xt_gh c r sd t) (xt_tD c r sd lv t)) → T.2.1 61 = f0 → xt_nB 512 f0 → xt_X E cx (xt_ZM E cx 0 0 (xt_Ep (some (.int (xt_tU c r sd lv bo t n k))) (fun S9 => xt_mfr S S9))) 0 0 64 [some (.ref (E.1 49)), some (.int (nI n)), some (.int (xt_pm (xt_tD c r sd lv t))), none, none] [] T := by
    intro f0 hF0
    have loopJ : ∀ (m : Nat), m ≤ (xt_tD c r sd lv t) → ∀ (T : xt_St) (f : Nat → Int32) (B : Nat), (xt_mfr S T) → (xt_Mt T (xt_gl c sd t) (xt_gt c sd t) (xt_gw c sd t) (xt_gh c r sd t) (xt_tD c r sd lv t)) → T.2.1 61 = f → xt_jn 1 (xt_gw c sd t) (xt_gh c r sd t) m f = (xt_jn 1 (xt_gw c sd t) (xt_gh c r sd t) (xt_tD c r sd lv t) f0) → 1 ≤ B → B * 4 ^ m ≤ 40000 → xt_nB B f → xt_X E cx (xt_ZM E cx 0 0 (xt_Ep (some (.int (xt_tU c r sd lv bo t n k))) (fun S9 => xt_mfr S S9))) 0 0 64 [some (.ref (E.1 49)), some (.int (nI n)), some (.int (xt_pm m)), none, none] [] T := by
      intro m
      induction m with
      | zero =>
        intro hm T f B hfr hMt hj hf hB1 hB2 hB
        obtain ⟨m1, m2, m3, m4, g1, g2, g3, g4, g5, g6, g7⟩ := id hMt
        have hf : f = (xt_jn 1 (xt_gw c sd t) (xt_gh c r sd t) (xt_tD c r sd lv t) f0) := hf
        show xt_X E cx (xt_ZM E cx 0 0 (xt_Ep (some (.int (xt_tU c r sd lv bo t n k))) (fun S9 => xt_mfr S S9))) 0 0 64 [some (.ref (E.1 49)), some (.int (nI n)), some (.int (-1)), none, none] [] T
        refine xt_iload_n C dX6_bound_64 rfl ?_
        refine xt_if_lt (tgt := 145) C dX6_bound_65 (by decide) (fun c65 => ?_) (fun c65 => ?_)
        · refine xt_iconst (v := nI 0) C dX6_bound_145 rfl ?_
          refine xt_istore_n (lo' := [_, _, _, _, _]) C dX6_bound_146 (Nat.le_of_ble_eq_true rfl) rfl rfl ?_
          refine xt_iconst (v := nI 0) C dX6_bound_147 rfl ?_
          refine xt_istore_n (lo' := [_, _, _, _, _]) C dX6_bound_148 (Nat.le_of_ble_eq_true rfl) rfl rfl ?_
          have hj9 : ∀ y x, y < (xt_gh c r sd t) → x < (xt_gw c sd t) → T.2.1 61 (8 * y + x) = (xt_jn 1 (xt_gw c sd t) (xt_gh c r sd t) (xt_tD c r sd lv t) (fun p => nI (1 * 2 ^ xt_mis (xt_tM c r sd lv t k p) bo n - 1))) (8 * y + x) := fun y x hy hx => by
            rw [hj, hf]
            exact xt_jn_ag g2 (by omega) hF0 (8 * y + x) (by omega) (by omega)
          have out1 : ∀ (d1 y : Nat), y ≤ (xt_gh c r sd t) →  (xt_gh c r sd t) + 1 ≤ y + d1 → xt_X E cx (xt_ZM E cx 0 0 (xt_Ep (some (.int (xt_tU c r sd lv bo t n k))) (fun S9 => xt_mfr S S9))) 0 0 149 [some (.ref (E.1 49)), some (.int (nI n)), some (.int (xt_it (fun y s => xt_it (fun x s => if s < ((xt_jn 1 (xt_gw c sd t) (xt_gh c r sd t) (xt_tD c r sd lv t) (fun p => nI (1 * 2 ^ xt_mis (xt_tM c r sd lv t k p) bo n - 1))) (8 * y + x)) then ((xt_jn 1 (xt_gw c sd t) (xt_gh c r sd t) (xt_tD c r sd lv t) (fun p => nI (1 * 2 ^ xt_mis (xt_tM c r sd lv t k p) bo n - 1))) (8 * y + x)) else s) (xt_gw c sd t) s) y 0)), some (.int (nI y)), none] [] T := by
            intro d1
            induction d1 with
            | zero => intro y  h0y  h1y; exact absurd h1y (by omega)
            | succ d1 ih1 =>
              intro y  h0y  h1y
              refine xt_iload_n C dX6_bound_149 rfl ?_
              refine xt_aload_n C dX6_bound_150 rfl ?_
              refine xt_get (f := 20) C xt_u6 rfl (by decide) (xt_cl49 _ _) (by decide) lkX6_41 rfl dX6_bound_151 ?_
              refine xt_iconst (v := nI 0) C dX6_bound_154 rfl ?_
              refine xt_ialdN C (by decide) (xt_cl58 _) (by decide) (by decide) (show T.2.1 58 0 = nI (xt_gh c r sd t) from by rw [(m4 0 (by omega)).2, xt_lo_0]) dX6_bound_155 ?_
              refine xt_icmp_geN (tgt := 202) C dX6_bound_156 (by decide) (by omega) (by omega) (fun c156 => ?_) (fun c156 => ?_)
              · refine xt_sipush (v := nI 255) C dX6_bound_202 (by decide) ?_
                refine xt_iload_n C dX6_bound_205 rfl ?_
                refine xt_mmin C lkX6_103 mw_min rfl ⟨by decide, Nat.le_of_ble_eq_true rfl, by decide, by decide⟩ dX6_bound_206 ?_
                exact xt_iret C dX6_bound_209 ⟨by decide, by decide⟩ ⟨by rw [show y = (xt_gh c r sd t) by omega]; rfl, hfr⟩
              · refine xt_iconst (v := nI 0) C dX6_bound_159 rfl ?_
                refine xt_istore (lo' := [_, _, _, _, _]) C dX6_bound_160 (Nat.le_of_ble_eq_true rfl) rfl rfl ?_
                have in2 : ∀ (d2 x : Nat), x ≤ (xt_gw c sd t) →  (xt_gw c sd t) + 1 ≤ x + d2 → xt_X E cx (xt_ZM E cx 0 0 (xt_Ep (some (.int (xt_tU c r sd lv bo t n k))) (fun S9 => xt_mfr S S9))) 0 0 162 [some (.ref (E.1 49)), some (.int (nI n)), some (.int (xt_it (fun x s => if s < ((xt_jn 1 (xt_gw c sd t) (xt_gh c r sd t) (xt_tD c r sd lv t) (fun p => nI (1 * 2 ^ xt_mis (xt_tM c r sd lv t k p) bo n - 1))) (8 * y + x)) then ((xt_jn 1 (xt_gw c sd t) (xt_gh c r sd t) (xt_tD c r sd lv t) (fun p => nI (1 * 2 ^ xt_mis (xt_tM c r sd lv t k p) bo n - 1))) (8 * y + x)) else s) x (xt_it (fun y s => xt_it (fun x s => if s < ((xt_jn 1 (xt_gw c sd t) (xt_gh c r sd t) (xt_tD c r sd lv t) (fun p => nI (1 * 2 ^ xt_mis (xt_tM c r sd lv t k p) bo n - 1))) (8 * y + x)) then ((xt_jn 1 (xt_gw c sd t) (xt_gh c r sd t) (xt_tD c r sd lv t) (fun p => nI (1 * 2 ^ xt_mis (xt_tM c r sd lv t k p) bo n - 1))) (8 * y + x)) else s) (xt_gw c sd t) s) y 0))), some (.int (nI y)), some (.int (nI x))] [] T := by
                  intro d2
                  induction d2 with
                  | zero => intro x  h0x  h1x; exact absurd h1x (by omega)
                  | succ d2 ih2 =>
                    intro x  h0x  h1x
                    refine xt_iload C dX6_bound_162 rfl ?_
                    refine xt_aload_n C dX6_bound_164 rfl ?_
                    refine xt_get (f := 19) C xt_u6 rfl (by decide) (xt_cl49 _ _) (by decide) lkX6_38 rfl dX6_bound_165 ?_
                    refine xt_iconst (v := nI 0) C dX6_bound_168 rfl ?_
                    refine xt_ialdN C (by decide) (xt_cl57 _) (by decide) (by decide) (show T.2.1 57 0 = nI (xt_gw c sd t) from by rw [(m4 0 (by omega)).1, xt_lo_0]) dX6_bound_169 ?_
                    refine xt_icmp_geN (tgt := 196) C dX6_bound_170 (by decide) (by omega) (by omega) (fun c170 => ?_) (fun c170 => ?_)
                    · refine xt_iincN (z := 1) (lo' := [_, _, _, _, _]) C dX6_bound_196 rfl rfl rfl ?_
                      refine xt_goto (tgt := 149) C dX6_bound_199 (by decide) ?_
                      have hx9 : x = (xt_gw c sd t) := by omega
                      subst hx9
                      exact xt_fg (by repeat' constructor) (ih1 (y + 1) (by omega)  (by omega))
                    · refine xt_iload_n C dX6_bound_173 rfl ?_
                      refine xt_aload_n C dX6_bound_174 rfl ?_
                      refine xt_get (f := 23) C xt_u6 rfl (by decide) (xt_cl49 _ _) (by decide) lkX6_51 rfl dX6_bound_175 ?_
                      refine xt_aload_n C dX6_bound_178 rfl ?_
                      refine xt_iload C dX6_bound_179 rfl ?_
                      refine xt_iload_n C dX6_bound_181 rfl ?_
                      refine xt_cV C mv_X6_place lkX6_116 ct_mplace rfl (by decide) (xt_cl49 _ _) rfl (by decide) rfl (Nat.le_of_ble_eq_true rfl) dX6_bound_182 ?_
                      refine xt_ialdN C (by decide) (xt_cl61 _) (by omega) (by decide) (hj9 y x (by omega) (by omega)) dX6_bound_185 ?_
                      refine xt_mmax C lkX6_126 mw_max rfl ⟨by decide, Nat.le_of_ble_eq_true rfl, by decide, by decide⟩ dX6_bound_186 ?_
                      refine xt_istore_n (lo' := [_, _, _, _, _]) C dX6_bound_189 (Nat.le_of_ble_eq_true rfl) rfl rfl ?_
                      refine xt_iincN (z := 1) (lo' := [_, _, _, _, _]) C dX6_bound_190 rfl rfl rfl ?_
                      refine xt_goto (tgt := 162) C dX6_bound_193 (by decide) ?_
                      have h9 := ih2 (x + 1) (by omega)  (by omega)
                      exact xt_fg (by repeat' constructor) h9
                exact xt_fg (by repeat' constructor) (in2 ((xt_gw c sd t) + 1) 0 (by omega)  (by omega))
          exact xt_fg (by repeat' constructor) (out1 ((xt_gh c r sd t) + 1) 0 (by omega) (by omega))
        · exact absurd (by decide) c65
      | succ m ih =>
        intro hm T f B hfr hMt hj hf hB1 hB2 hB
        obtain ⟨m1, m2, m3, m4, g1, g2, g3, g4, g5, g6, g7⟩ := id hMt
        have hlw := xt_lo_le (n := (xt_gw c sd t)) (k := m) (by omega)
        have hlh := xt_lo_le (n := (xt_gh c r sd t)) (k := m) (by omega)
        have hlw1 : 1 ≤ (xt_lo (xt_gw c sd t) m) := xt_lo_p (by omega) (by omega)
        have hlh1 : 1 ≤ (xt_lo (xt_gh c r sd t) m) := xt_lo_p (by omega) (by omega)
        have hBB : B ≤ 10000 := by
          have h9 : B * 4 ≤ B * 4 ^ (m + 1) := Nat.mul_le_mul_left B (by rw [Nat.pow_succ]; have := Nat.two_pow_pos 0; have h8 : 1 ≤ 4 ^ m := Nat.one_le_pow _ _ (by decide); omega)
          omega
        have hB2 : B * (4 ^ m * 4) ≤ 40000 := by rw [← Nat.pow_succ]; exact hB2
        have hB2 : 2 * (2 * B) * 4 ^ m ≤ 40000 := by rw [show 2 * (2 * B) * 4 ^ m = B * (4 ^ m * 4) by rw [Nat.mul_comm (4 ^ m) 4, ← Nat.mul_assoc B 4, Nat.mul_comm B 4, ← Nat.mul_assoc 2 2]]; exact hB2
        show xt_X E cx (xt_ZM E cx 0 0 (xt_Ep (some (.int (xt_tU c r sd lv bo t n k))) (fun S9 => xt_mfr S S9))) 0 0 64 [some (.ref (E.1 49)), some (.int (nI n)), some (.int (nI m)), none, none] [] T
        refine xt_iload_n C dX6_bound_64 rfl ?_
        refine xt_if_ltN (tgt := 145) C dX6_bound_65 (by decide) (by omega) ?_
        refine xt_iconst (v := nI 0) C dX6_bound_68 rfl ?_
        refine xt_istore_n (lo' := [_, _, _, _, _]) C dX6_bound_69 (Nat.le_of_ble_eq_true rfl) rfl rfl ?_
        have loopR : ∀ (dr y : Nat) (T : xt_St), y ≤ (xt_lo (xt_gh c r sd t) m) → (xt_mfr S T) → (xt_Mt T (xt_gl c sd t) (xt_gt c sd t) (xt_gw c sd t) (xt_gh c r sd t) (xt_tD c r sd lv t)) → (T.2.1 61 = (xt_R (xt_jl 1 (xt_lo (xt_gw c sd t) m)) y (xt_C (xt_jl 1 (xt_lo (xt_gh c r sd t) m)) (xt_lo (xt_gw c sd t) m) f))) → (xt_lo (xt_gh c r sd t) m) + 1 ≤ y + dr → xt_X E cx (xt_ZM E cx 0 0 (xt_Ep (some (.int (xt_tU c r sd lv bo t n k))) (fun S9 => xt_mfr S S9))) 0 0 106 [some (.ref (E.1 49)), some (.int (nI n)), some (.int (nI m)), some (.int (nI y)), none] [] T := by
          intro dr
          induction dr with
          | zero => intro y T h0y hfr hMt hj h1y; exact absurd h1y (by omega)
          | succ dr ihr =>
            intro y T h0y hfr hMt hj h1y
            obtain ⟨m1, m2, m3, m4, g1, g2, g3, g4, g5, g6, g7⟩ := id hMt
            have hbT : xt_nB (2 * (2 * B)) (T.2.1 61) := by rw [hj]; exact xt_nB_R (by omega) (by omega) (by omega) (xt_nB_C (by omega) (by omega) (by omega) hB)
            refine xt_iload_n C dX6_bound_106 rfl ?_
            refine xt_aload_n C dX6_bound_107 rfl ?_
            refine xt_get (f := 20) C xt_u6 rfl (by decide) (xt_cl49 _ _) (by decide) lkX6_41 rfl dX6_bound_108 ?_
            refine xt_iload_n C dX6_bound_111 rfl ?_
            refine xt_ialdN C (by decide) (xt_cl58 _) (by omega) (by decide) (m4 m (by omega)).2 dX6_bound_112 ?_
            refine xt_icmp_geN (tgt := 139) C dX6_bound_113 (by decide) (by omega) (by omega) (fun c113 => ?_) (fun c113 => ?_)
            · refine xt_iinc (lo' := [_, _, _, _, _]) C dX6_bound_139 rfl rfl rfl rfl ?_
              refine xt_goto (tgt := 64) C dX6_bound_142 (by decide) ?_
              rw [xt_pm_i]
              have hy9 : y = (xt_lo (xt_gh c r sd t) m) := by omega
              subst hy9
              exact xt_fg (by repeat' constructor) (ih (by omega) T _ (2 * (2 * B)) hfr hMt hj (by rw [← hf]; rfl) (by omega) hB2 (xt_nB_R (by omega) (by omega) (by omega) (xt_nB_C (by omega) (by omega) (by omega) hB)))
            · refine xt_aload_n C dX6_bound_116 rfl ?_
              refine xt_aload_n C dX6_bound_117 rfl ?_
              refine xt_iconst (v := nI 0) C dX6_bound_118 rfl ?_
              refine xt_iload_n C dX6_bound_119 rfl ?_
              refine xt_cV C mv_X6_place lkX6_116 ct_mplace rfl (by decide) (xt_cl49 _ _) rfl (by decide) rfl (Nat.le_of_ble_eq_true rfl) dX6_bound_120 ?_
              refine xt_iconst (v := nI 1) C dX6_bound_123 rfl ?_
              refine xt_aload_n C dX6_bound_124 rfl ?_
              refine xt_get (f := 19) C xt_u6 rfl (by decide) (xt_cl49 _ _) (by decide) lkX6_38 rfl dX6_bound_125 ?_
              refine xt_iload_n C dX6_bound_128 rfl ?_
              refine xt_ialdN C (by decide) (xt_cl57 _) (by omega) (by decide) (m4 m (by omega)).1 dX6_bound_129 ?_
              refine xt_cVpn C mv_X6_joinsDoubts lkX6_211 (ct_mjoinsDoubts (by omega) (by omega) (by decide) (fun j hj => by omega) (fun j hj9 => by obtain ⟨z, hz, ez⟩ := hbT (8 * y + 0 + j * 1) (by omega); exact ⟨z, by omega, ez⟩)) rfl (by decide) (xt_cl49 _ _) rfl (by decide) rfl (Nat.le_of_ble_eq_true rfl) dX6_bound_130 (fun S9 hq9 => ?_)
              obtain ⟨r9, f9, rfl, hp9⟩ := hq9
              rw [hj] at hp9
              have e1 := xt_R_s (F := xt_jl 1 (xt_lo (xt_gw c sd t) m)) (f := (xt_C (xt_jl 1 (xt_lo (xt_gh c r sd t) m)) (xt_lo (xt_gw c sd t) m) f)) (by omega) xt_jl_o hp9
              refine xt_iincN (z := 1) (lo' := [_, _, _, _, _]) C dX6_bound_133 rfl rfl rfl ?_
              refine xt_goto (tgt := 106) C dX6_bound_136 (by decide) ?_
              have hfs : xt_mfr S (xt_sA (xt_sA T 62 r9) 61 f9) := xt_mfr_A (by omega) (xt_mfr_A (by omega) hfr)
              have hms : xt_Mt (xt_sA (xt_sA T 62 r9) 61 f9) (xt_gl c sd t) (xt_gt c sd t) (xt_gw c sd t) (xt_gh c r sd t) (xt_tD c r sd lv t) := (xt_Mt_k hMt rfl (by rw [xt_sA_n (by decide), xt_sA_n (by decide)]) (by rw [xt_sA_n (by decide), xt_sA_n (by decide)]))
              have hcs : (xt_sA (xt_sA T 62 r9) 61 f9).2.1 61 = (xt_R (xt_jl 1 (xt_lo (xt_gw c sd t) m)) (y + 1) (xt_C (xt_jl 1 (xt_lo (xt_gh c r sd t) m)) (xt_lo (xt_gw c sd t) m) f)) := by rw [xt_sA_s]; exact e1
              exact xt_fg (by repeat' constructor) (ihr (y + 1) _ (by omega) hfs hms hcs (by omega))
        have loopC : ∀ (dc x : Nat) (T : xt_St), x ≤ (xt_lo (xt_gw c sd t) m) → (xt_mfr S T) → (xt_Mt T (xt_gl c sd t) (xt_gt c sd t) (xt_gw c sd t) (xt_gh c r sd t) (xt_tD c r sd lv t)) → (T.2.1 61 = (xt_C (xt_jl 1 (xt_lo (xt_gh c r sd t) m)) x f)) → (xt_lo (xt_gw c sd t) m) + 1 ≤ x + dc → xt_X E cx (xt_ZM E cx 0 0 (xt_Ep (some (.int (xt_tU c r sd lv bo t n k))) (fun S9 => xt_mfr S S9))) 0 0 70 [some (.ref (E.1 49)), some (.int (nI n)), some (.int (nI m)), some (.int (nI x)), none] [] T := by
          intro dc
          induction dc with
          | zero => intro x T h0x hfr hMt hj h1x; exact absurd h1x (by omega)
          | succ dc ihc =>
            intro x T h0x hfr hMt hj h1x
            obtain ⟨m1, m2, m3, m4, g1, g2, g3, g4, g5, g6, g7⟩ := id hMt
            have hbT : xt_nB (2 * B) (T.2.1 61) := by rw [hj]; exact xt_nB_C (by omega) (by omega) (by omega) hB
            refine xt_iload_n C dX6_bound_70 rfl ?_
            refine xt_aload_n C dX6_bound_71 rfl ?_
            refine xt_get (f := 19) C xt_u6 rfl (by decide) (xt_cl49 _ _) (by decide) lkX6_38 rfl dX6_bound_72 ?_
            refine xt_iload_n C dX6_bound_75 rfl ?_
            refine xt_ialdN C (by decide) (xt_cl57 _) (by omega) (by decide) (m4 m (by omega)).1 dX6_bound_76 ?_
            refine xt_icmp_geN (tgt := 104) C dX6_bound_77 (by decide) (by omega) (by omega) (fun c77 => ?_) (fun c77 => ?_)
            · refine xt_iconst (v := nI 0) C dX6_bound_104 rfl ?_
              refine xt_istore_n (lo' := [_, _, _, _, _]) C dX6_bound_105 (Nat.le_of_ble_eq_true rfl) rfl rfl ?_
              have hx9 : x = (xt_lo (xt_gw c sd t) m) := by omega
              subst hx9
              exact xt_fg (by repeat' constructor) (loopR ((xt_lo (xt_gh c r sd t) m) + 1) 0 T (by omega) hfr hMt (by rw [hj, xt_R_0]) (by omega))
            · refine xt_aload_n C dX6_bound_80 rfl ?_
              refine xt_aload_n C dX6_bound_81 rfl ?_
              refine xt_iload_n C dX6_bound_82 rfl ?_
              refine xt_iconst (v := nI 0) C dX6_bound_83 rfl ?_
              refine xt_cV C mv_X6_place lkX6_116 ct_mplace rfl (by decide) (xt_cl49 _ _) rfl (by decide) rfl (Nat.le_of_ble_eq_true rfl) dX6_bound_84 ?_
              refine xt_bipush (v := nI 8) C dX6_bound_87 (by decide) ?_
              refine xt_aload_n C dX6_bound_89 rfl ?_
              refine xt_get (f := 20) C xt_u6 rfl (by decide) (xt_cl49 _ _) (by decide) lkX6_41 rfl dX6_bound_90 ?_
              refine xt_iload_n C dX6_bound_93 rfl ?_
              refine xt_ialdN C (by decide) (xt_cl58 _) (by omega) (by decide) (m4 m (by omega)).2 dX6_bound_94 ?_
              refine xt_cVpn C mv_X6_joinsDoubts lkX6_211 (ct_mjoinsDoubts (by omega) (by omega) (by decide) (fun j hj => by omega) (fun j hj9 => by obtain ⟨z, hz, ez⟩ := hbT (8 * 0 + x + j * 8) (by omega); exact ⟨z, by omega, ez⟩)) rfl (by decide) (xt_cl49 _ _) rfl (by decide) rfl (Nat.le_of_ble_eq_true rfl) dX6_bound_95 (fun S9 hq9 => ?_)
              obtain ⟨r9, f9, rfl, hp9⟩ := hq9
              rw [hj] at hp9
              have e1 := xt_C_s (F := xt_jl 1 (xt_lo (xt_gh c r sd t) m)) (f := f) (by omega) xt_jl_o hp9
              refine xt_iincN (z := 1) (lo' := [_, _, _, _, _]) C dX6_bound_98 rfl rfl rfl ?_
              refine xt_goto (tgt := 70) C dX6_bound_101 (by decide) ?_
              have hfs : xt_mfr S (xt_sA (xt_sA T 62 r9) 61 f9) := xt_mfr_A (by omega) (xt_mfr_A (by omega) hfr)
              have hms : xt_Mt (xt_sA (xt_sA T 62 r9) 61 f9) (xt_gl c sd t) (xt_gt c sd t) (xt_gw c sd t) (xt_gh c r sd t) (xt_tD c r sd lv t) := (xt_Mt_k hMt rfl (by rw [xt_sA_n (by decide), xt_sA_n (by decide)]) (by rw [xt_sA_n (by decide), xt_sA_n (by decide)]))
              have hcs : (xt_sA (xt_sA T 62 r9) 61 f9).2.1 61 = (xt_C (xt_jl 1 (xt_lo (xt_gh c r sd t) m)) (x + 1) f) := by rw [xt_sA_s]; exact e1
              exact xt_fg (by repeat' constructor) (ihc (x + 1) _ (by omega) hfs hms hcs (by omega))
        exact xt_fg (by repeat' constructor) (loopC ((xt_lo (xt_gw c sd t) m) + 1) 0 T (by omega) hfr hMt (by rw [hj, xt_C_0]) (by omega))
    intro T hfr hMt hj hnb
    exact loopJ (xt_tD c r sd lv t) (Nat.le_refl _) T f0 512 hfr hMt hj rfl (by decide) (by have h9 : 4 ^ (xt_tD c r sd lv t) ≤ 4 ^ 3 := Nat.pow_le_pow_right (by decide) hdl; omega) hnb
  have places : ∀ (m0 : Nat → Int32), S.2.1 60 = m0 → (∀ p, xt_in (xt_gw c sd t) (xt_gh c r sd t) p → xt_m9 (m0 p) = xt_tM c r sd lv t k p) → xt_X E cx (xt_ZM E cx 0 0 (xt_Ep (some (.int (xt_tU c r sd lv bo t n k))) (fun S9 => xt_mfr S S9))) 0 0 2 [some (.ref (E.1 49)), some (.int (nI n)), some (.int (nI 0)), none, none] [] S := by
    intro m0 e0 hm0
    have outer : ∀ (d p9 : Nat) (T : xt_St), p9 ≤ 64 → (xt_mfr S T) → (xt_Mt T (xt_gl c sd t) (xt_gt c sd t) (xt_gw c sd t) (xt_gh c r sd t) (xt_tD c r sd lv t)) → (T.2.1 60 = m0) → (∀ q, q < p9 → T.2.1 61 q = nI (1 * 2 ^ xt_mis (xt_m9 (m0 q)) bo n - 1)) → 64 + 1 ≤ p9 + d → xt_X E cx (xt_ZM E cx 0 0 (xt_Ep (some (.int (xt_tU c r sd lv bo t n k))) (fun S9 => xt_mfr S S9))) 0 0 2 [some (.ref (E.1 49)), some (.int (nI n)), some (.int (nI p9)), none, none] [] T := by
      intro d
      induction d with
      | zero => intro p9 T h0p9 hfr hMt h60 hc9 h1p9; exact absurd h1p9 (by omega)
      | succ d ih =>
        intro p9 T h0p9 hfr hMt h60 hc9 h1p9
        obtain ⟨m1, m2, m3, m4, g1, g2, g3, g4, g5, g6, g7⟩ := id hMt
        have hp64x : p9 ≤ 64 := by omega
        refine xt_iload_n C dX6_bound_2 rfl ?_
        refine xt_bipush (v := nI 64) C dX6_bound_3 (by decide) ?_
        refine xt_icmp_geN (tgt := 57) C dX6_bound_5 (by decide) (by omega) (by omega) (fun c5 => ?_) (fun hp64 => ?_)
        · refine xt_aload_n C dX6_bound_57 rfl ?_
          refine xt_get (f := 18) C xt_u6 rfl (by decide) (xt_cl49 _ _) (by decide) lkX6_109 (xt_vI m3) dX6_bound_58 ?_
          refine xt_iconst (v := nI 1) C dX6_bound_61 rfl ?_
          refine xt_isub C dX6_bound_62 ?_
          rw [xt_pm_s]
          refine xt_istore_n (lo' := [_, _, _, _, _]) C dX6_bound_63 (Nat.le_of_ble_eq_true rfl) rfl rfl ?_
          have hall : ∀ q, q < 64 → T.2.1 61 q = nI (1 * 2 ^ xt_mis (xt_m9 (m0 q)) bo n - 1) := fun q hq => hc9 q (by omega)
          have hF0 : xt_ag (xt_gw c sd t) (xt_gh c r sd t) (T.2.1 61) (fun p => nI (1 * 2 ^ xt_mis (xt_tM c r sd lv t k p) bo n - 1)) := fun p h1 h2 => by
            rw [hall p (by omega), hm0 p ⟨h1, h2⟩]
          exact xt_fg (by repeat' constructor) (loopJ0 _ hF0 T hfr hMt rfl (fun p hp => ⟨_, by have h9 : 2 ^ xt_mis (xt_m9 (m0 p)) bo n ≤ 2 ^ 9 := Nat.pow_le_pow_right (by decide) xt_mis_le; omega, hall p hp⟩))
        · refine xt_iconst (v := nI 0) C dX6_bound_8 rfl ?_
          refine xt_istore_n (lo' := [_, _, _, _, _]) C dX6_bound_9 (Nat.le_of_ble_eq_true rfl) rfl rfl ?_
          refine xt_iconst (v := nI 0) C dX6_bound_10 rfl ?_
          refine xt_istore (lo' := [_, _, _, _, _]) C dX6_bound_11 (Nat.le_of_ble_eq_true rfl) rfl rfl ?_
          have in3 : ∀ (d3 p : Nat), p ≤ 9 →  9 + 1 ≤ p + d3 → xt_X E cx (xt_ZM E cx 0 0 (xt_Ep (some (.int (xt_tU c r sd lv bo t n k))) (fun S9 => xt_mfr S S9))) 0 0 13 [some (.ref (E.1 49)), some (.int (nI n)), some (.int (nI p9)), some (.int (nI (xt_ql (xt_m9 (T.2.1 60 p9)) bo n p))), some (.int (nI p))] [] T := by
            intro d3
            induction d3 with
            | zero => intro p  h0p  h1p; exact absurd h1p (by omega)
            | succ d3 ih3 =>
              intro p  h0p  h1p
              have hlay : xt_lay (xt_m9 (T.2.1 60 p9)) bo p ≤ 8 := xt_lay_8
              have hqle := xt_ql_le (m := xt_m9 (T.2.1 60 p9)) (bo := bo) (n := n) p
              refine xt_iload C dX6_bound_13 rfl ?_
              refine xt_bipush (v := nI 9) C dX6_bound_15 (by decide) ?_
              refine xt_icmp_geN (tgt := 40) C dX6_bound_17 (by decide) (by omega) (by omega) (fun c17 => ?_) (fun c17 => ?_)
              · have hp9 : p = 9 := by omega
                refine xt_aload_n C dX6_bound_40 rfl ?_
                refine xt_get (f := 23) C xt_u6 rfl (by decide) (xt_cl49 _ _) (by decide) lkX6_51 rfl dX6_bound_41 ?_
                refine xt_iload_n C dX6_bound_44 rfl ?_
                refine xt_iconst (v := nI 1) C dX6_bound_45 rfl ?_
                refine xt_iload_n C dX6_bound_46 rfl ?_
                refine xt_ishlN C dX6_bound_47 (by have h9 : 2 ^ xt_ql (xt_m9 (T.2.1 60 p9)) bo n p ≤ 2 ^ 9 := Nat.pow_le_pow_right (by decide) (by have := xt_ql_le (m := xt_m9 (T.2.1 60 p9)) (bo := bo) (n := n) p; omega); omega) (by have := xt_ql_le (m := xt_m9 (T.2.1 60 p9)) (bo := bo) (n := n) p; omega) ?_
                refine xt_iconst (v := nI 1) C dX6_bound_48 rfl ?_
                refine xt_isubN C dX6_bound_49 (by have := Nat.two_pow_pos (xt_ql (xt_m9 (T.2.1 60 p9)) bo n p); omega) ?_
                refine xt_iastN C (by decide) (xt_cl61 _) hp64 (by decide) dX6_bound_50 ?_
                refine xt_iincN (z := 1) (lo' := [_, _, _, _, _]) C dX6_bound_51 rfl rfl rfl ?_
                refine xt_goto (tgt := 2) C dX6_bound_54 (by decide) ?_
                have hv9 : nI (1 * 2 ^ xt_ql (xt_m9 (T.2.1 60 p9)) bo n p - 1) = nI (1 * 2 ^ xt_mis (xt_m9 (m0 p9)) bo n - 1) := by
                  rw [hp9, xt_ql_e (by unfold xt_m9; split <;> omega) b7 hn9, h60]
                exact xt_fg (by repeat' constructor) (ih (p9 + 1) _ (by omega) (xt_mfr_A (by omega) hfr) (xt_Mt_k hMt rfl (xt_sA_n (by decide)) (xt_sA_n (by decide))) ((xt_sA_n (by decide)).trans h60) (fun q hq => by
                  rw [xt_sA_s]
                  by_cases e : q = p9
                  · rw [e, xt_up_s]; exact hv9
                  · rw [xt_up_n e]; exact hc9 q (by omega)) (by omega))
              · refine xt_aload_n C dX6_bound_20 rfl ?_
                refine xt_iload_n C dX6_bound_21 rfl ?_
                refine xt_iload C dX6_bound_22 rfl ?_
                refine xt_cV C mv_X6_layer lkX6_129 (ct_mlayer9 hp64 (by rw [hfr.2.1 50 (by omega)]; exact hb) (by omega) (by omega)) rfl (by decide) (xt_cl49 _ _) rfl (by decide) rfl (Nat.le_of_ble_eq_true rfl) dX6_bound_24 ?_
                refine xt_iload_n C dX6_bound_27 rfl ?_
                refine xt_icmp_ltN (tgt := 34) C dX6_bound_28 (by decide) (by omega) (by omega) (fun c28 => ?_) (fun c28 => ?_)
                · refine xt_iincN (z := 1) (lo' := [_, _, _, _, _]) C dX6_bound_34 rfl rfl rfl ?_
                  refine xt_goto (tgt := 13) C dX6_bound_37 (by decide) ?_
                  have h9 := ih3 (p + 1) (by omega) (by omega)
                  first
                  | rw [xt_ql1 c28] at h9
                  | rw [xt_ql0 c28] at h9
                  exact xt_fg (by repeat' constructor) h9
                · refine xt_iincN (z := 1) (lo' := [_, _, _, _, _]) C dX6_bound_31 rfl rfl rfl ?_
                  refine xt_iincN (z := 1) (lo' := [_, _, _, _, _]) C dX6_bound_34 rfl rfl rfl ?_
                  refine xt_goto (tgt := 13) C dX6_bound_37 (by decide) ?_
                  have h9 := ih3 (p + 1) (by omega) (by omega)
                  first
                  | rw [xt_ql1 c28] at h9
                  | rw [xt_ql0 c28] at h9
                  exact xt_fg (by repeat' constructor) h9
          exact xt_fg (by repeat' constructor) (in3 (9 + 1) 0 (by omega) (by omega))
    exact outer (64 + 1) 0 S (by omega) xt_mfr_rf hL.1 e0 (fun q hq => absurd hq (Nat.not_lt_zero _)) (by omega)
  refine xt_iconst (v := nI 0) C dX6_bound_0 rfl ?_
  refine xt_istore_n (lo' := [_, _, _, _, _]) C dX6_bound_1 (Nat.le_of_ble_eq_true rfl) rfl rfl ?_
  exact xt_fg (by repeat' constructor) (places _ rfl hm0x)
set_option maxRecDepth 20000 in
set_option maxHeartbeats 2000000 in
theorem ct_mworst_bound {c r sd lv bo : Nat} (hM : xt_Mp S c r sd lv bo) {t : Nat} (ht : t < xt_nt c r sd) {v k : Nat → Int32} (hvv : ∀ j, j < 256 → xt_mV S j = v j) (hkk : ∀ j, j < 256 → xt_mK S j = k j) (hvr : ∀ j, j < 256 → ∃ m, m ≤ 255 ∧ v j = nI m) (hk : ∀ j, j < 256 → k j = nI 0 ∨ k j = nI 1) {n : Nat} (hn9 : n ≤ 9) : xt_Ct E l yX6_worst cX6_worst 4 (some Jvm.ClassFile.FieldType.int) 4 87 0 0 [.ref (E.1 49), .int (nI n), .int (nI t), .int (nI 1)] S (xt_Ep (some (.int (xt_tU c r sd lv bo t n k))) (xt_mr S 0)) := by
  refine xt_body (by decide +kernel) (xt_all rfl) (Nat.le_of_ble_eq_true rfl) (fun cx C hl9 => ?_)
  show xt_X E cx _ 0 0 0 [some (.ref (E.1 49)), some (.int (nI n)), some (.int (nI t)), some (.int (nI 1))] [] S
  have hM9 := hM
  obtain ⟨hc, hr, hs, hv, hb, b1, b2, b3, b4, b5, b6, b7⟩ := hM
  have hn := xt_nt_b ⟨b1, b2⟩ ⟨b3, b4⟩ b5
  have hT := xt_tile_b ⟨b1, b2⟩ ⟨b3, b4⟩ b5 ht
  have hdl : (xt_tD c r sd lv t) ≤ 3 := xt_dep_le.2
  have hk9 : ∀ j, j < 256 → xt_mK S j = nI 0 ∨ xt_mK S j = nI 1 := fun j hj => by rw [hkk j hj]; exact hk j hj
  refine xt_aload_n C dX6_worst_0 rfl ?_
  refine xt_iconst (v := nI 0) C dX6_worst_1 rfl ?_
  refine xt_put (f := 0) C xt_u6 rfl (by decide) (xt_cl49 _ _) (by decide) tyX6 tyX6_ok nmX6 lkX6_74 rfl (tyX6_ok 0 (by decide)) rfl rfl (Nat.le_of_ble_eq_true rfl) rfl dX6_worst_2 ?_
  refine xt_iload_n C dX6_worst_5 rfl ?_
  refine xt_iconst (v := nI 0) C dX6_worst_6 rfl ?_
  refine xt_bipush (v := nI 9) C dX6_worst_7 (by decide) ?_
  refine xt_cS C ms_X6_in lkX6_81 ct_in rfl (by decide) rfl (Nat.le_of_ble_eq_true rfl) dX6_worst_9 ?_
  refine xt_if_neB (tgt := 21) C dX6_worst_12 (by decide) (fun c12 => ?_) (fun c12 => ?_)
  · refine xt_aload_n C dX6_worst_21 rfl ?_
    refine xt_iload_n C dX6_worst_22 rfl ?_
    refine xt_cV C mv_X6_isTile lkX6_165 (ct_isTile (by exact hM9)) rfl (by decide) (xt_cl49 _ _) rfl (by decide) rfl (Nat.le_of_ble_eq_true rfl) dX6_worst_23 ?_
    refine xt_if_neB (tgt := 35) C dX6_worst_26 (by decide) (fun c26 => ?_) (fun c26 => ?_)
    · refine xt_aload_n C dX6_worst_35 rfl ?_
      refine xt_iload_n C dX6_worst_36 rfl ?_
      refine xt_cVpn C mv_X6_looks lkX6_169 (ct_looks (by exact hM9) ht (by exact hk9)) rfl (by decide) (xt_cl49 _ _) rfl (by decide) rfl (Nat.le_of_ble_eq_true rfl) dX6_worst_37 (fun S9 hq9 => ?_)
      obtain ⟨hfr, hL0⟩ := hq9
      have hL := xt_ML_c ⟨b1, b2⟩ ⟨b3, b4⟩ b5 ht hvv hkk hL0
      rename xt_St => T1
      have hMt := hL.1
      obtain ⟨m1, m2, m3, m4, g1, g2, g3, g4, g5, g6, g7⟩ := id hMt
      refine xt_iload_n C dX6_worst_40 rfl ?_
      refine xt_if_eqN (tgt := 50) C dX6_worst_41 (by decide) (by omega) (fun c41 => ?_) (fun c41 => ?_)
      · exact absurd c41 (by decide)
      · refine xt_aload_n C dX6_worst_44 rfl ?_
        refine xt_iload_n C dX6_worst_45 rfl ?_
        refine xt_cVp C mv_X6_bound lkX6_214 (ct_bound (by exact xt_mfr_Mp hfr hM9) ht hL hn9) rfl (by decide) (xt_cl49 _ _) rfl (by decide) rfl (Nat.le_of_ble_eq_true rfl) dX6_worst_46 (fun S9 hq9 => ?_)
        have hfr3 := xt_mfr_tr hfr hq9
        exact xt_iret C dX6_worst_49 ⟨by decide, by decide⟩ ⟨rfl, xt_mr_0 hfr3⟩
    · exact absurd ⟨t, ht, rfl⟩ c26
  · exact absurd ⟨nI_pos' (by omega), nI_le hn9 (by omega)⟩ c12
end XM12
