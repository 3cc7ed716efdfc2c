/-! THE TILE: SPLITTING AND JOINING A LINE -/
section XC10
variable {E : xt_Ev} {l : Launch} {S : xt_St}
def xt_take (old f : Nat → Int32) (s t n : Nat) : Nat → Int32 := fun i => if i < n then f (s + i * t) else old i
theorem xt_take_s {old f : Nat → Int32} {s t i : Nat} : upd (xt_take old f s t i) i (f (s + i * t)) = xt_take old f s t (i + 1) := by
  funext j
  unfold xt_take
  by_cases h : j = i
  · subst h; rw [xt_up_s, if_pos (by omega)]
  · rw [xt_up_n h]
    by_cases h2 : j < i
    · rw [if_pos h2, if_pos (by omega)]
    · rw [if_neg h2, if_neg (by omega)]
theorem xt_take_0 {old f : Nat → Int32} {s t : Nat} : xt_take old f s t 0 = old := by funext j; simp [xt_take]
theorem xt_take_at {old f : Nat → Int32} {s t n i : Nat} (h : i < n) : xt_take old f s t n i = f (s + i * t) := by simp [xt_take, h]
def xt_half (x : Int32) : Int32 := x >>> (nI 1 &&& 31)
theorem xt_hf {z : Int32} : z >>> (nI 1 &&& 31) = xt_half z := rfl
/-- a line of n numbers is split; joined (z: as doubts) -/
def xt_sp (n : Nat) (g : Nat → Int32) : Nat → Int32 := fun i => if n ≤ i then g i else if i < xt_lo n 1 then (if 2 * i + 1 < n then xt_half (g (2 * i) + g (2 * i + 1)) else g (2 * i)) else g (2 * (i - xt_lo n 1)) - g (2 * (i - xt_lo n 1) + 1)
def xt_jl (z n : Nat) (g : Nat → Int32) : Nat → Int32 := fun j => if n ≤ j then g j else if 2 * (j / 2) + 1 < n then (if j % 2 = 0 ∨ 0 < z then g (j / 2) + xt_half (g (xt_lo n 1 + j / 2) + nI 1) else g (j / 2) + xt_half (g (xt_lo n 1 + j / 2) + nI 1) - g (xt_lo n 1 + j / 2)) else g (j / 2)
/-- of the line of n numbers from s on, t apart, those of D are F's, the others f's; nothing else is new -/
def xt_pt (s t n : Nat) (f g : Nat → Int32) (D : Nat → Prop) (F : Nat → Int32) : Prop := (∀ j, j < n → D j → g (s + j * t) = F j) ∧ (∀ j, j < n → ¬ D j → g (s + j * t) = f (s + j * t)) ∧ ∀ p, (∀ j, j < n → p ≠ s + j * t) → g p = f p
theorem xt_pt_0 {s t n : Nat} {f F : Nat → Int32} : xt_pt s t n f f (fun _ => False) F := ⟨fun _ _ h => h.elim, fun _ _ _ => rfl, fun _ _ => rfl⟩
theorem xt_pt_put {s t n k : Nat} {f g F : Nat → Int32} {D : Nat → Prop} (ht : 0 < t) (hk : k < n) {v : Int32} (hv : F k = v) (h : xt_pt s t n f g D F) : xt_pt s t n f (upd g (s + k * t) v) (fun j => D j ∨ j = k) F := by
  have ne : ∀ j, j ≠ k → s + j * t ≠ s + k * t := fun j hj e => hj (Nat.eq_of_mul_eq_mul_right ht (by omega))
  refine ⟨fun j hj hd => ?_, fun j hj hd => ?_, fun p hp => ?_⟩
  · by_cases e : j = k
    · subst e; rw [xt_up_s]; exact hv.symm
    · rw [xt_up_n (ne j e)]
      exact h.1 j hj (by rcases hd with z | z; exact z; exact absurd z e)
  · rw [xt_up_n (ne j (fun e => hd (Or.inr e)))]
    exact h.2.1 j hj (fun z => hd (Or.inl z))
  · rw [xt_up_n (hp k hk)]
    exact h.2.2 p hp
theorem xt_pt_iff {s t n : Nat} {f g F : Nat → Int32} {D D' : Nat → Prop} (h : xt_pt s t n f g D F) (e : ∀ j, j < n → (D j ↔ D' j)) : xt_pt s t n f g D' F := ⟨fun j hj hd => h.1 j hj ((e j hj).mpr hd), fun j hj hd => h.2.1 j hj (fun z => hd ((e j hj).mp z)), h.2.2⟩
set_option maxRecDepth 20000 in
set_option maxHeartbeats 2000000 in
theorem ct_takeLine {a : Nat} (hi : a < xt_NC) (ha : xt_ar E 0 a 64) (hne : a ≠ 41) {s t n : Nat} (hn : n ≤ 8) (hb : ∀ i, i < n → s + i * t < 64) : xt_Ct E l yX4_takeLine cX4_takeLine 6 none 1 22 0 0 [.ref (E.1 33), .ref (E.1 a), .int (nI s), .int (nI t), .int (nI n)] S (xt_Eq none (xt_sA S 41 (xt_take (S.2.1 41) (S.2.1 a) s t n))) := by
  refine xt_body (by decide +kernel) (xt_all rfl) (Nat.le_of_ble_eq_true rfl) (fun cx C hl9 => ?_)
  show xt_X E cx _ 0 0 0 [some (.ref (E.1 33)), some (.ref (E.1 a)), some (.int (nI s)), some (.int (nI t)), some (.int (nI n)), none] [] S
  have loop : ∀ (d i : Nat), i ≤ n →  n + 1 ≤ i + d → xt_X E cx (xt_ZM E cx 0 0 (xt_Eq none (xt_sA S 41 (xt_take (S.2.1 41) (S.2.1 a) s t n)))) 0 0 3 [some (.ref (E.1 33)), some (.ref (E.1 a)), some (.int (nI s)), some (.int (nI t)), some (.int (nI n)), some (.int (nI i))] [] (xt_sA S 41 (xt_take (S.2.1 41) (S.2.1 a) s t i)) := by
    intro d
    induction d with
    | zero => intro i  h0i  h1i; exact absurd h1i (by omega)
    | succ d ih =>
      intro i  h0i  h1i
      refine xt_iload C dX4_takeLine_3 rfl ?_
      refine xt_iload C dX4_takeLine_5 rfl ?_
      refine xt_icmp_geN (tgt := 35) C dX4_takeLine_7 (by decide) (by omega) (by omega) (fun c7 => ?_) (fun c7 => ?_)
      · exact xt_vret C dX4_takeLine_35 ⟨by decide, by decide⟩ (by rw [show i = n by omega]; exact ⟨rfl, rfl⟩)
      · refine xt_aload_n C dX4_takeLine_10 rfl ?_
        refine xt_get (f := 13) C xt_u4 rfl (by decide) (xt_cl33 _ _) (by decide) lkX4_33 rfl dX4_takeLine_11 ?_
        refine xt_iload C dX4_takeLine_14 rfl ?_
        refine xt_aload_n C dX4_takeLine_16 rfl ?_
        refine xt_iload_n C dX4_takeLine_17 rfl ?_
        refine xt_iload C dX4_takeLine_18 rfl ?_
        refine xt_iload_n C dX4_takeLine_20 rfl ?_
        refine xt_imulN C dX4_takeLine_21 ?_
        refine xt_iaddN C dX4_takeLine_22 ?_
        refine xt_cSN C ms_X5_at lkX4_84 (ct_at hi ha (by decide) (hb i (by omega)) (v := S.2.1 a (s + i * t)) (by rw [xt_sA_n hne])) rfl (by decide) rfl (Nat.le_of_ble_eq_true rfl) dX4_takeLine_23 ?_
        refine xt_cSNn C ms_X5_put lkX4_91 (ct_put (by decide) (xt_cl41 _) (by decide) (by omega)) rfl (by decide) rfl (Nat.le_of_ble_eq_true rfl) dX4_takeLine_26 ?_
        refine xt_iincN (z := 1) (lo' := [_, _, _, _, _, _]) C dX4_takeLine_29 rfl rfl rfl ?_
        refine xt_goto (tgt := 3) C dX4_takeLine_32 (by decide) ?_
        rw [xt_sA_s, xt_sA_sA, xt_take_s]
        exact ih (i + 1) (by omega) (by omega)
  refine xt_iconst (v := nI 0) C dX4_takeLine_0 rfl ?_
  refine xt_istore (lo' := [_, _, _, _, _, _]) C dX4_takeLine_1 (Nat.le_of_ble_eq_true rfl) rfl rfl ?_
  have h9 := loop (n + 1) 0 (by omega) (by omega)
  rw [xt_take_0, xt_sA_self] at h9
  exact h9
set_option maxRecDepth 20000 in
set_option maxHeartbeats 2000000 in
theorem ct_splitLine {s t n : Nat} (hn : n ≤ 8) (ht : 0 < t) (hb : ∀ i, i < n → s + i * t < 64) : xt_Ct E l yX4_splitLine cX4_splitLine 8 none 2 47 0 0 [.ref (E.1 33), .int (nI s), .int (nI t), .int (nI n)] S (xt_Ep none (fun S9 => ∃ g9 f9, S9 = xt_sA (xt_sA S 41 g9) 35 f9 ∧ xt_pt s t n (S.2.1 35) f9 (fun _ => True) (xt_sp n (fun j => S.2.1 35 (s + j * t))))) := by
  refine xt_body (by decide +kernel) (xt_all rfl) (Nat.le_of_ble_eq_true rfl) (fun cx C hl9 => ?_)
  show xt_X E cx _ 0 0 0 [some (.ref (E.1 33)), some (.int (nI s)), some (.int (nI t)), some (.int (nI n)), none, none, none, none] [] S
  have hlo : xt_lo n 1 ≤ n := xt_lo_le (by omega)
  have hlo2 : n ≤ 2 * xt_lo n 1 ∧ 2 * xt_lo n 1 ≤ n + 1 := by unfold xt_lo; omega
  have loop : ∀ (d i : Nat) (g : Nat → Int32), i ≤ (xt_lo n 1) → xt_pt s t n (S.2.1 35) g (fun j => j < i ∨ (xt_lo n 1 ≤ j ∧ j < xt_lo n 1 + i)) (xt_sp n (fun j => S.2.1 35 (s + j * t))) → (xt_lo n 1) + 1 ≤ i + d → xt_X E cx (xt_ZM E cx 0 0 (xt_Ep none (fun S9 => ∃ g9 f9, S9 = xt_sA (xt_sA S 41 g9) 35 f9 ∧ xt_pt s t n (S.2.1 35) f9 (fun _ => True) (xt_sp n (fun j => S.2.1 35 (s + j * t)))))) 0 0 21 [some (.ref (E.1 33)), some (.int (nI s)), some (.int (nI t)), some (.int (nI n)), some (.int (nI (xt_lo n 1))), some (.int (nI i)), none, none] [] (xt_sA (xt_sA S 41 (xt_take (S.2.1 41) (S.2.1 35) s t n)) 35 g) := by
    intro d
    induction d with
    | zero => intro i g h0i hpt h1i; exact absurd h1i (by omega)
    | succ d ih =>
      intro i g h0i hpt h1i
      refine xt_iload C dX4_splitLine_21 rfl ?_
      refine xt_iload C dX4_splitLine_23 rfl ?_
      refine xt_icmp_geN (tgt := 131) C dX4_splitLine_25 (by decide) (by omega) (by omega) (fun c25 => ?_) (fun c25 => ?_)
      · exact xt_vret C dX4_splitLine_131 ⟨by decide, by decide⟩ ⟨rfl, _, g, rfl, xt_pt_iff hpt (fun j hj => ⟨fun _ => trivial, fun _ => by omega⟩)⟩
      · refine xt_aload_n C dX4_splitLine_28 rfl ?_
        refine xt_get (f := 13) C xt_u4 rfl (by decide) (xt_cl33 _ _) (by decide) lkX4_33 rfl dX4_splitLine_29 ?_
        refine xt_iconst (v := nI 2) C dX4_splitLine_32 rfl ?_
        refine xt_iload C dX4_splitLine_33 rfl ?_
        refine xt_imulN C dX4_splitLine_35 ?_
        refine xt_cSN C ms_X5_at lkX4_84 (ct_at (by decide) (xt_cl41 _) (by decide) (by omega) (v := S.2.1 35 (s + (2 * i) * t)) (by rw [show (xt_sA (xt_sA S 41 (xt_take (S.2.1 41) (S.2.1 35) s t n)) 35 g).2.1 41 = (xt_take (S.2.1 41) (S.2.1 35) s t n) from rfl]; exact xt_take_at (by omega))) rfl (by decide) rfl (Nat.le_of_ble_eq_true rfl) dX4_splitLine_36 ?_
        refine xt_istore (lo' := [_, _, _, _, _, _, _, _]) C dX4_splitLine_39 (Nat.le_of_ble_eq_true rfl) rfl rfl ?_
        refine xt_iconst (v := nI 2) C dX4_splitLine_41 rfl ?_
        refine xt_iload C dX4_splitLine_42 rfl ?_
        refine xt_imulN C dX4_splitLine_44 ?_
        refine xt_iconst (v := nI 1) C dX4_splitLine_45 rfl ?_
        refine xt_iaddN C dX4_splitLine_46 ?_
        refine xt_iload_n C dX4_splitLine_47 rfl ?_
        refine xt_icmp_geN (tgt := 110) C dX4_splitLine_48 (by decide) (by omega) (by omega) (fun c48 => ?_) (fun c48 => ?_)
        · refine xt_aload_n C dX4_splitLine_110 rfl ?_
          refine xt_get (f := 7) C xt_u4 rfl (by decide) (xt_cl33 _ _) (by decide) lkX4_15 rfl dX4_splitLine_111 ?_
          refine xt_iload_n C dX4_splitLine_114 rfl ?_
          refine xt_iload C dX4_splitLine_115 rfl ?_
          refine xt_iload_n C dX4_splitLine_117 rfl ?_
          refine xt_imulN C dX4_splitLine_118 ?_
          refine xt_iaddN C dX4_splitLine_119 ?_
          refine xt_iload C dX4_splitLine_120 rfl ?_
          refine xt_cSNn C ms_X5_put lkX4_91 (ct_put (by decide) (xt_cl35 _) (by decide) (hb _ (by omega))) rfl (by decide) rfl (Nat.le_of_ble_eq_true rfl) dX4_splitLine_122 ?_
          refine xt_iincN (z := 1) (lo' := [_, _, _, _, _, _, _, _]) C dX4_splitLine_125 rfl rfl rfl ?_
          refine xt_goto (tgt := 21) C dX4_splitLine_128 (by decide) ?_
          simp only [xt_sA_s, xt_sA_sA]
          exact xt_fg (by repeat' constructor) (ih (i + 1) _ (by omega) (xt_pt_iff (xt_pt_put ht (k := i) (by omega) (by unfold xt_sp; rw [if_neg (by omega), if_pos (by omega), if_neg (by omega)]) hpt) (fun j hj => by omega)) (by omega))
        · refine xt_aload_n C dX4_splitLine_51 rfl ?_
          refine xt_get (f := 13) C xt_u4 rfl (by decide) (xt_cl33 _ _) (by decide) lkX4_33 rfl dX4_splitLine_52 ?_
          refine xt_iconst (v := nI 2) C dX4_splitLine_55 rfl ?_
          refine xt_iload C dX4_splitLine_56 rfl ?_
          refine xt_imulN C dX4_splitLine_58 ?_
          refine xt_iconst (v := nI 1) C dX4_splitLine_59 rfl ?_
          refine xt_iaddN C dX4_splitLine_60 ?_
          refine xt_cSN C ms_X5_at lkX4_84 (ct_at (by decide) (xt_cl41 _) (by decide) (by omega) (v := S.2.1 35 (s + (2 * i + 1) * t)) (by rw [show (xt_sA (xt_sA S 41 (xt_take (S.2.1 41) (S.2.1 35) s t n)) 35 g).2.1 41 = (xt_take (S.2.1 41) (S.2.1 35) s t n) from rfl]; exact xt_take_at (by omega))) rfl (by decide) rfl (Nat.le_of_ble_eq_true rfl) dX4_splitLine_61 ?_
          refine xt_istore (lo' := [_, _, _, _, _, _, _, _]) C dX4_splitLine_64 (Nat.le_of_ble_eq_true rfl) rfl rfl ?_
          refine xt_aload_n C dX4_splitLine_66 rfl ?_
          refine xt_get (f := 7) C xt_u4 rfl (by decide) (xt_cl33 _ _) (by decide) lkX4_15 rfl dX4_splitLine_67 ?_
          refine xt_iload_n C dX4_splitLine_70 rfl ?_
          refine xt_iload C dX4_splitLine_71 rfl ?_
          refine xt_iload_n C dX4_splitLine_73 rfl ?_
          refine xt_imulN C dX4_splitLine_74 ?_
          refine xt_iaddN C dX4_splitLine_75 ?_
          refine xt_iload C dX4_splitLine_76 rfl ?_
          refine xt_iload C dX4_splitLine_78 rfl ?_
          refine xt_iadd C dX4_splitLine_80 ?_
          refine xt_iconst (v := nI 1) C dX4_splitLine_81 rfl ?_
          refine xt_ishr C dX4_splitLine_82 ?_
          rw [xt_hf]
          refine xt_cSNn C ms_X5_put lkX4_91 (ct_put (by decide) (xt_cl35 _) (by decide) (hb _ (by omega))) rfl (by decide) rfl (Nat.le_of_ble_eq_true rfl) dX4_splitLine_83 ?_
          refine xt_aload_n C dX4_splitLine_86 rfl ?_
          refine xt_get (f := 7) C xt_u4 rfl (by decide) (xt_cl33 _ _) (by decide) lkX4_15 rfl dX4_splitLine_87 ?_
          refine xt_iload_n C dX4_splitLine_90 rfl ?_
          refine xt_iload C dX4_splitLine_91 rfl ?_
          refine xt_iload C dX4_splitLine_93 rfl ?_
          refine xt_iaddN C dX4_splitLine_95 ?_
          refine xt_iload_n C dX4_splitLine_96 rfl ?_
          refine xt_imulN C dX4_splitLine_97 ?_
          refine xt_iaddN C dX4_splitLine_98 ?_
          refine xt_iload C dX4_splitLine_99 rfl ?_
          refine xt_iload C dX4_splitLine_101 rfl ?_
          refine xt_isub C dX4_splitLine_103 ?_
          refine xt_cSNn C ms_X5_put lkX4_91 (ct_put (by decide) (xt_cl35 _) (by decide) (hb _ (by omega))) rfl (by decide) rfl (Nat.le_of_ble_eq_true rfl) dX4_splitLine_104 ?_
          refine xt_goto (tgt := 125) C dX4_splitLine_107 (by decide) ?_
          refine xt_iincN (z := 1) (lo' := [_, _, _, _, _, _, _, _]) C dX4_splitLine_125 rfl rfl rfl ?_
          refine xt_goto (tgt := 21) C dX4_splitLine_128 (by decide) ?_
          simp only [xt_sA_s, xt_sA_sA]
          have hp1 := xt_pt_put ht (k := i) (v := xt_half (S.2.1 35 (s + 2 * i * t) + S.2.1 35 (s + (2 * i + 1) * t))) (by omega) (by unfold xt_sp; rw [if_neg (by omega), if_pos (by omega), if_pos (by omega)]) hpt
          have hp2 := xt_pt_put ht (k := xt_lo n 1 + i) (v := S.2.1 35 (s + 2 * i * t) - S.2.1 35 (s + (2 * i + 1) * t)) (by omega) (by unfold xt_sp; rw [if_neg (by omega), if_neg (by omega), show xt_lo n 1 + i - xt_lo n 1 = i by omega]) hp1
          exact xt_fg (by repeat' constructor) (ih (i + 1) _ (by omega) (xt_pt_iff hp2 (fun j hj => by omega)) (by omega))
  refine xt_aload_n C dX4_splitLine_0 rfl ?_
  refine xt_aload_n C dX4_splitLine_1 rfl ?_
  refine xt_get (f := 7) C xt_u4 rfl (by decide) (xt_cl33 _ _) (by decide) lkX4_15 rfl dX4_splitLine_2 ?_
  refine xt_iload_n C dX4_splitLine_5 rfl ?_
  refine xt_iload_n C dX4_splitLine_6 rfl ?_
  refine xt_iload_n C dX4_splitLine_7 rfl ?_
  refine xt_cVn C mv_X4_takeLine lkX4_128 (ct_takeLine (by decide) (xt_cl35 _) (by decide) hn hb) rfl (by decide) (xt_cl33 _ _) rfl (by decide) rfl (Nat.le_of_ble_eq_true rfl) dX4_splitLine_8 ?_
  refine xt_iload_n C dX4_splitLine_11 rfl ?_
  refine xt_iconst (v := nI 1) C dX4_splitLine_12 rfl ?_
  refine xt_cS C ms_X4_lows lkX4_74 (ct_lows (by omega) (by omega)) rfl (by decide) rfl (Nat.le_of_ble_eq_true rfl) dX4_splitLine_13 ?_
  refine xt_istore (lo' := [_, _, _, _, _, _, _, _]) C dX4_splitLine_16 (Nat.le_of_ble_eq_true rfl) rfl rfl ?_
  refine xt_iconst (v := nI 0) C dX4_splitLine_18 rfl ?_
  refine xt_istore (lo' := [_, _, _, _, _, _, _, _]) C dX4_splitLine_19 (Nat.le_of_ble_eq_true rfl) rfl rfl ?_
  have h9 := loop (xt_lo n 1 + 1) 0 (S.2.1 35) (by omega) (xt_pt_iff xt_pt_0 (fun j hj => ⟨False.elim, fun h => by omega⟩)) (by omega)
  rw [show xt_sA (xt_sA S 41 (xt_take (S.2.1 41) (S.2.1 35) s t n)) 35 (S.2.1 35) = xt_sA S 41 (xt_take (S.2.1 41) (S.2.1 35) s t n) from xt_sA_self] at h9
  exact xt_fg (by repeat' constructor) h9
set_option maxRecDepth 20000 in
set_option maxHeartbeats 2000000 in
theorem ct_joinLine {s t n z : Nat} (hn : n ≤ 8) (ht : 0 < t) (hz : z ≤ 1) (hb : ∀ i, i < n → s + i * t < 64) : xt_Ct E l yX4_joinLine cX4_joinLine 10 none 2 47 0 0 [.ref (E.1 33), .int (nI s), .int (nI t), .int (nI n), .int (nI z)] S (xt_Ep none (fun S9 => ∃ g9 f9, S9 = xt_sA (xt_sA S 41 g9) 40 f9 ∧ xt_pt s t n (S.2.1 40) f9 (fun _ => True) (xt_jl z n (fun j => S.2.1 40 (s + j * t))))) := by
  refine xt_body (by decide +kernel) (xt_all rfl) (Nat.le_of_ble_eq_true rfl) (fun cx C hl9 => ?_)
  show xt_X E cx _ 0 0 0 [some (.ref (E.1 33)), some (.int (nI s)), some (.int (nI t)), some (.int (nI n)), some (.int (nI z)), none, none, none, none, none] [] S
  have hlo : xt_lo n 1 ≤ n := xt_lo_le (by omega)
  have hlo2 : n ≤ 2 * xt_lo n 1 ∧ 2 * xt_lo n 1 ≤ n + 1 := by unfold xt_lo; omega
  have loop : ∀ (d i : Nat) (g : Nat → Int32), i ≤ (xt_lo n 1) → xt_pt s t n (S.2.1 40) g (fun j => j < 2 * i) (xt_jl z n (fun j => S.2.1 40 (s + j * t))) → (xt_lo n 1) + 1 ≤ i + d → xt_X E cx (xt_ZM E cx 0 0 (xt_Ep none (fun S9 => ∃ g9 f9, S9 = xt_sA (xt_sA S 41 g9) 40 f9 ∧ xt_pt s t n (S.2.1 40) f9 (fun _ => True) (xt_jl z n (fun j => S.2.1 40 (s + j * t)))))) 0 0 21 [some (.ref (E.1 33)), some (.int (nI s)), some (.int (nI t)), some (.int (nI n)), some (.int (nI z)), some (.int (nI (xt_lo n 1))), some (.int (nI i)), none, none, none] [] (xt_sA (xt_sA S 41 (xt_take (S.2.1 41) (S.2.1 40) s t n)) 40 g) := by
    intro d
    induction d with
    | zero => intro i g h0i hpt h1i; exact absurd h1i (by omega)
    | succ d ih =>
      intro i g h0i hpt h1i
      refine xt_iload C dX4_joinLine_21 rfl ?_
      refine xt_iload C dX4_joinLine_23 rfl ?_
      refine xt_icmp_geN (tgt := 149) C dX4_joinLine_25 (by decide) (by omega) (by omega) (fun c25 => ?_) (fun c25 => ?_)
      · exact xt_vret C dX4_joinLine_149 ⟨by decide, by decide⟩ ⟨rfl, _, g, rfl, xt_pt_iff hpt (fun j hj => ⟨fun _ => trivial, fun _ => by omega⟩)⟩
      · refine xt_aload_n C dX4_joinLine_28 rfl ?_
        refine xt_get (f := 13) C xt_u4 rfl (by decide) (xt_cl33 _ _) (by decide) lkX4_33 rfl dX4_joinLine_29 ?_
        refine xt_iload C dX4_joinLine_32 rfl ?_
        refine xt_cSN C ms_X5_at lkX4_84 (ct_at (by decide) (xt_cl41 _) (by decide) (by omega) (v := S.2.1 40 (s + (i) * t)) (by rw [show (xt_sA (xt_sA S 41 (xt_take (S.2.1 41) (S.2.1 40) s t n)) 40 g).2.1 41 = (xt_take (S.2.1 41) (S.2.1 40) s t n) from rfl]; exact xt_take_at (by omega))) rfl (by decide) rfl (Nat.le_of_ble_eq_true rfl) dX4_joinLine_34 ?_
        refine xt_istore (lo' := [_, _, _, _, _, _, _, _, _, _]) C dX4_joinLine_37 (Nat.le_of_ble_eq_true rfl) rfl rfl ?_
        refine xt_iconst (v := nI 2) C dX4_joinLine_39 rfl ?_
        refine xt_iload C dX4_joinLine_40 rfl ?_
        refine xt_imulN C dX4_joinLine_42 ?_
        refine xt_iconst (v := nI 1) C dX4_joinLine_43 rfl ?_
        refine xt_iaddN C dX4_joinLine_44 ?_
        refine xt_iload_n C dX4_joinLine_45 rfl ?_
        refine xt_icmp_geN (tgt := 126) C dX4_joinLine_46 (by decide) (by omega) (by omega) (fun c46 => ?_) (fun c46 => ?_)
        · refine xt_aload_n C dX4_joinLine_126 rfl ?_
          refine xt_get (f := 12) C xt_u4 rfl (by decide) (xt_cl33 _ _) (by decide) lkX4_30 rfl dX4_joinLine_127 ?_
          refine xt_iload_n C dX4_joinLine_130 rfl ?_
          refine xt_iconst (v := nI 2) C dX4_joinLine_131 rfl ?_
          refine xt_iload C dX4_joinLine_132 rfl ?_
          refine xt_imulN C dX4_joinLine_134 ?_
          refine xt_iload_n C dX4_joinLine_135 rfl ?_
          refine xt_imulN C dX4_joinLine_136 ?_
          refine xt_iaddN C dX4_joinLine_137 ?_
          refine xt_iload C dX4_joinLine_138 rfl ?_
          refine xt_cSNn C ms_X5_put lkX4_91 (ct_put (by decide) (xt_cl40 _) (by decide) (hb _ (by omega))) rfl (by decide) rfl (Nat.le_of_ble_eq_true rfl) dX4_joinLine_140 ?_
          refine xt_iincN (z := 1) (lo' := [_, _, _, _, _, _, _, _, _, _]) C dX4_joinLine_143 rfl rfl rfl ?_
          refine xt_goto (tgt := 21) C dX4_joinLine_146 (by decide) ?_
          simp only [xt_sA_s, xt_sA_sA]
          exact xt_fg (by repeat' constructor) (ih (i + 1) _ (by omega) (xt_pt_iff (xt_pt_put ht (k := 2 * i) (by omega) (by unfold xt_jl; rw [if_neg (by omega), if_neg (by omega), show 2 * i / 2 = i by omega]) hpt) (fun j hj => by omega)) (by omega))
        · refine xt_aload_n C dX4_joinLine_49 rfl ?_
          refine xt_get (f := 13) C xt_u4 rfl (by decide) (xt_cl33 _ _) (by decide) lkX4_33 rfl dX4_joinLine_50 ?_
          refine xt_iload C dX4_joinLine_53 rfl ?_
          refine xt_iload C dX4_joinLine_55 rfl ?_
          refine xt_iaddN C dX4_joinLine_57 ?_
          refine xt_cSN C ms_X5_at lkX4_84 (ct_at (by decide) (xt_cl41 _) (by decide) (by omega) (v := S.2.1 40 (s + (xt_lo n 1 + i) * t)) (by rw [show (xt_sA (xt_sA S 41 (xt_take (S.2.1 41) (S.2.1 40) s t n)) 40 g).2.1 41 = (xt_take (S.2.1 41) (S.2.1 40) s t n) from rfl]; exact xt_take_at (by omega))) rfl (by decide) rfl (Nat.le_of_ble_eq_true rfl) dX4_joinLine_58 ?_
          refine xt_istore (lo' := [_, _, _, _, _, _, _, _, _, _]) C dX4_joinLine_61 (Nat.le_of_ble_eq_true rfl) rfl rfl ?_
          refine xt_iload C dX4_joinLine_63 rfl ?_
          refine xt_iload C dX4_joinLine_65 rfl ?_
          refine xt_iconst (v := nI 1) C dX4_joinLine_67 rfl ?_
          refine xt_iadd C dX4_joinLine_68 ?_
          refine xt_iconst (v := nI 1) C dX4_joinLine_69 rfl ?_
          refine xt_ishr C dX4_joinLine_70 ?_
          rw [xt_hf]
          refine xt_iadd C dX4_joinLine_71 ?_
          refine xt_istore (lo' := [_, _, _, _, _, _, _, _, _, _]) C dX4_joinLine_72 (Nat.le_of_ble_eq_true rfl) rfl rfl ?_
          refine xt_aload_n C dX4_joinLine_74 rfl ?_
          refine xt_get (f := 12) C xt_u4 rfl (by decide) (xt_cl33 _ _) (by decide) lkX4_30 rfl dX4_joinLine_75 ?_
          refine xt_iload_n C dX4_joinLine_78 rfl ?_
          refine xt_iconst (v := nI 2) C dX4_joinLine_79 rfl ?_
          refine xt_iload C dX4_joinLine_80 rfl ?_
          refine xt_imulN C dX4_joinLine_82 ?_
          refine xt_iload_n C dX4_joinLine_83 rfl ?_
          refine xt_imulN C dX4_joinLine_84 ?_
          refine xt_iaddN C dX4_joinLine_85 ?_
          refine xt_iload C dX4_joinLine_86 rfl ?_
          refine xt_cSNn C ms_X5_put lkX4_91 (ct_put (by decide) (xt_cl40 _) (by decide) (hb _ (by omega))) rfl (by decide) rfl (Nat.le_of_ble_eq_true rfl) dX4_joinLine_88 ?_
          refine xt_aload_n C dX4_joinLine_91 rfl ?_
          refine xt_get (f := 12) C xt_u4 rfl (by decide) (xt_cl33 _ _) (by decide) lkX4_30 rfl dX4_joinLine_92 ?_
          refine xt_iload_n C dX4_joinLine_95 rfl ?_
          refine xt_iconst (v := nI 2) C dX4_joinLine_96 rfl ?_
          refine xt_iload C dX4_joinLine_97 rfl ?_
          refine xt_imulN C dX4_joinLine_99 ?_
          refine xt_iconst (v := nI 1) C dX4_joinLine_100 rfl ?_
          refine xt_iaddN C dX4_joinLine_101 ?_
          refine xt_iload_n C dX4_joinLine_102 rfl ?_
          refine xt_imulN C dX4_joinLine_103 ?_
          refine xt_iaddN C dX4_joinLine_104 ?_
          refine xt_iload C dX4_joinLine_105 rfl ?_
          refine xt_if_eqN (tgt := 115) C dX4_joinLine_107 (by decide) (by omega) (fun c107 => ?_) (fun c107 => ?_)
          · refine xt_iload C dX4_joinLine_115 rfl ?_
            refine xt_iload C dX4_joinLine_117 rfl ?_
            refine xt_isub C dX4_joinLine_119 ?_
            refine xt_cSNn C ms_X5_put lkX4_91 (ct_put (by decide) (xt_cl40 _) (by decide) (hb _ (by omega))) rfl (by decide) rfl (Nat.le_of_ble_eq_true rfl) dX4_joinLine_120 ?_
            refine xt_goto (tgt := 143) C dX4_joinLine_123 (by decide) ?_
            refine xt_iincN (z := 1) (lo' := [_, _, _, _, _, _, _, _, _, _]) C dX4_joinLine_143 rfl rfl rfl ?_
            refine xt_goto (tgt := 21) C dX4_joinLine_146 (by decide) ?_
            simp only [xt_sA_s, xt_sA_sA]
            have hp1 := xt_pt_put ht (k := 2 * i) (v := S.2.1 40 (s + i * t) + xt_half (S.2.1 40 (s + (xt_lo n 1 + i) * t) + nI 1)) (by omega) (by unfold xt_jl; rw [if_neg (by omega), if_pos (by omega), if_pos (by omega), show 2 * i / 2 = i by omega]) hpt
            have hp2 := xt_pt_put ht (k := 2 * i + 1) (v := S.2.1 40 (s + i * t) + xt_half (S.2.1 40 (s + (xt_lo n 1 + i) * t) + nI 1) - S.2.1 40 (s + (xt_lo n 1 + i) * t)) (by omega) (by unfold xt_jl; rw [if_neg (by omega), if_pos (by omega), if_neg (by omega), show (2 * i + 1) / 2 = i by omega]) hp1
            exact xt_fg (by repeat' constructor) (ih (i + 1) _ (by omega) (xt_pt_iff hp2 (fun j hj => by omega)) (by omega))
          · refine xt_iload C dX4_joinLine_110 rfl ?_
            refine xt_goto (tgt := 120) C dX4_joinLine_112 (by decide) ?_
            refine xt_cSNn C ms_X5_put lkX4_91 (ct_put (by decide) (xt_cl40 _) (by decide) (hb _ (by omega))) rfl (by decide) rfl (Nat.le_of_ble_eq_true rfl) dX4_joinLine_120 ?_
            refine xt_goto (tgt := 143) C dX4_joinLine_123 (by decide) ?_
            refine xt_iincN (z := 1) (lo' := [_, _, _, _, _, _, _, _, _, _]) C dX4_joinLine_143 rfl rfl rfl ?_
            refine xt_goto (tgt := 21) C dX4_joinLine_146 (by decide) ?_
            simp only [xt_sA_s, xt_sA_sA]
            have hp1 := xt_pt_put ht (k := 2 * i) (v := S.2.1 40 (s + i * t) + xt_half (S.2.1 40 (s + (xt_lo n 1 + i) * t) + nI 1)) (by omega) (by unfold xt_jl; rw [if_neg (by omega), if_pos (by omega), if_pos (by omega), show 2 * i / 2 = i by omega]) hpt
            have hp2 := xt_pt_put ht (k := 2 * i + 1) (v := S.2.1 40 (s + i * t) + xt_half (S.2.1 40 (s + (xt_lo n 1 + i) * t) + nI 1)) (by omega) (by unfold xt_jl; rw [if_neg (by omega), if_pos (by omega), if_pos (by omega), show (2 * i + 1) / 2 = i by omega]) hp1
            exact xt_fg (by repeat' constructor) (ih (i + 1) _ (by omega) (xt_pt_iff hp2 (fun j hj => by omega)) (by omega))
  refine xt_aload_n C dX4_joinLine_0 rfl ?_
  refine xt_aload_n C dX4_joinLine_1 rfl ?_
  refine xt_get (f := 12) C xt_u4 rfl (by decide) (xt_cl33 _ _) (by decide) lkX4_30 rfl dX4_joinLine_2 ?_
  refine xt_iload_n C dX4_joinLine_5 rfl ?_
  refine xt_iload_n C dX4_joinLine_6 rfl ?_
  refine xt_iload_n C dX4_joinLine_7 rfl ?_
  refine xt_cVn C mv_X4_takeLine lkX4_128 (ct_takeLine (by decide) (xt_cl40 _) (by decide) hn hb) rfl (by decide) (xt_cl33 _ _) rfl (by decide) rfl (Nat.le_of_ble_eq_true rfl) dX4_joinLine_8 ?_
  refine xt_iload_n C dX4_joinLine_11 rfl ?_
  refine xt_iconst (v := nI 1) C dX4_joinLine_12 rfl ?_
  refine xt_cS C ms_X4_lows lkX4_74 (ct_lows (by omega) (by omega)) rfl (by decide) rfl (Nat.le_of_ble_eq_true rfl) dX4_joinLine_13 ?_
  refine xt_istore (lo' := [_, _, _, _, _, _, _, _, _, _]) C dX4_joinLine_16 (Nat.le_of_ble_eq_true rfl) rfl rfl ?_
  refine xt_iconst (v := nI 0) C dX4_joinLine_18 rfl ?_
  refine xt_istore (lo' := [_, _, _, _, _, _, _, _, _, _]) C dX4_joinLine_19 (Nat.le_of_ble_eq_true rfl) rfl rfl ?_
  have h9 := loop (xt_lo n 1 + 1) 0 (S.2.1 40) (by omega) (xt_pt_iff xt_pt_0 (fun j hj => ⟨False.elim, fun h => by omega⟩)) (by omega)
  rw [show xt_sA (xt_sA S 41 (xt_take (S.2.1 41) (S.2.1 40) s t n)) 40 (S.2.1 40) = xt_sA S 41 (xt_take (S.2.1 41) (S.2.1 40) s t n) from xt_sA_self] at h9
  exact xt_fg (by repeat' constructor) h9
end XC10
