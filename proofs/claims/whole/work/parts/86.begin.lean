/-! what is known as the law begins -/
section XP1
def xt_tm (i : Nat) : Term := .string (xt_tx.getD i ("", 0, "")).1 (xt_tx.getD i ("", 0, "")).2.1
def xt_vt (i : Nat) : Term := .field (xt_tm i) "java/lang/String" "value" "[B"
def xt_fsi (i : Nat) : List Cond := [.exactly (xt_tm i) "java/lang/String", .eq (.field (xt_tm i) "java/lang/String" "coder" "B") (.int 0), .arrayOf (xt_vt i) .byte, .eq (.length (xt_vt i)) (.int (Int32.ofNat (xt_tl.getD i 0)))] ++ (List.range (xt_tl.getD i 0)).map (fun j => .eq (.elem (xt_vt i) (.int (Int32.ofNat j))) (.int ((xt_tb.getD i []).getD j 0)))
set_option maxRecDepth 100000 in
set_option maxHeartbeats 4000000 in
theorem xt_fl_eq : (flatC (Jvm.Cond.and given_1 narrow_1)).drop 66 = (List.range 31).flatMap xt_fsi := by decide +kernel
theorem xt_fsi_in {i : Nat} (hi : i < 31) {c : Cond} (hc : c ∈ xt_fsi i) : c ∈ flatC (Jvm.Cond.and given_1 narrow_1) := by
  have h : c ∈ (List.range 31).flatMap xt_fsi := List.mem_flatMap.mpr ⟨i, List.mem_range.mpr hi, hc⟩
  rw [← xt_fl_eq] at h
  exact List.mem_of_mem_drop h
set_option maxRecDepth 100000 in
set_option maxHeartbeats 4000000 in
theorem xt_sr_in : ∀ q ∈ xt_tx, Cond.stringRef q.1 q.2.1 q.2.2 ∈ tables_1 := by
  have h : xt_tx.all (fun q => decide (Cond.stringRef q.1 q.2.1 q.2.2 ∈ tables_1)) = true := by decide +kernel
  intro q hq
  exact of_decide_eq_true (List.all_eq_true.mp h q hq)
theorem xt_len31 : ∀ i, i < 31 → xt_tl.getD i 0 < 2 ^ 31 := by
  have h : (List.range 31).all (fun i => decide (xt_tl.getD i 0 < 2 ^ 31)) = true := by decide +kernel
  intro i hi
  exact of_decide_eq_true (List.all_eq_true.mp h i (List.mem_range.mpr hi))
/-- two texts differ: in length or at a place -/
theorem xt_dif : ∀ i j, i < 31 → j < 31 → i ≠ j → xt_tl.getD i 0 ≠ xt_tl.getD j 0 ∨ ∃ k, k < xt_tl.getD i 0 ∧ (xt_tb.getD i []).getD k 0 ≠ (xt_tb.getD j []).getD k 0 := by
  have h : (List.range 31).all (fun i => (List.range 31).all (fun j => decide (i = j) || !decide (xt_tl.getD i 0 = xt_tl.getD j 0) || (List.range (xt_tl.getD i 0)).any (fun k => !decide ((xt_tb.getD i []).getD k 0 = (xt_tb.getD j []).getD k 0)))) = true := by decide +kernel
  intro i j hi hj hij
  have h1 := List.all_eq_true.mp (List.all_eq_true.mp h i (List.mem_range.mpr hi)) j (List.mem_range.mpr hj)
  simp only [Bool.or_eq_true, Bool.not_eq_true', decide_eq_true_eq, decide_eq_false_iff_not] at h1
  rcases h1 with (h1 | h1) | h1
  · exact absurd h1 hij
  · exact Or.inl h1
  · obtain ⟨k, hk, h2⟩ := List.any_eq_true.mp h1
    simp only [Bool.not_eq_true', decide_eq_false_iff_not] at h2
    exact Or.inr ⟨k, List.mem_range.mp hk, h2⟩
theorem xt_OF_u {o n d : String} {v w : Value} {t : Nat} {A : Nat → Prop} {U : State} {H : Heap} (h1 : va_OF o n d v t A U H) (h2 : va_OF o n d w t A U H) : v = w := by
  obtain ⟨cf, k, i, f, cell, a1, -, a3, -, a5, -⟩ := h1
  obtain ⟨cf', k', i', f', cell', b1, -, b3, -, b5, -⟩ := h2
  rw [a1] at b1
  cases b1
  rw [a3] at b3
  cases b3
  exact Option.some.inj (a5.symm.trans b5)
theorem xt_T_u {ty : FieldType} {t N M : Nat} {f g : Nat → Value} {A : Nat → Prop} {U : State} {H : Heap} (hN : N < 2 ^ 31) (hM : M < 2 ^ 31) (h1 : va_T ty t N f A U H) (h2 : va_T ty t M g A U H) : N = M ∧ ∀ j, j < N → f j = g j := by
  obtain ⟨cell, a1, -, -, a4, a5, a6, -⟩ := h1
  obtain ⟨cell', b1, -, -, b4, b5, b6, -⟩ := h2
  rw [a1] at b1
  cases b1
  have e : N = M := (nI_eq hN hM).mp (a5.symm.trans b5)
  subst e
  exact ⟨rfl, fun j hj => Option.some.inj ((a6 j hj).symm.trans (b6 j hj))⟩
theorem xt_str {b : Addr} {s : State} {A : Nat → Prop} (hgv : (Jvm.Cond.and given_1 narrow_1).before #[Value.ref b] s = true) (hA : ∀ a : Nat, a < s.heap.size → ¬ A a) :
    ∃ adK adV : Nat → Nat, vk_S 31 xt_tl xt_tb adK adV A s s.heap ∧ ∀ i : Nat, i < 31 → (xt_tm i).eval #[Value.ref b] s none [] s = some (.ref (adK i)) := by
  have hfl := flat_of_before _ hgv
  have hex : ∀ i : Nat, i < 31 → (Cond.exactly (xt_tm i) "java/lang/String").before #[Value.ref b] s = true := fun i hi => hfl _ (xt_fsi_in hi (List.mem_append_left _ (by simp)))
  have hco : ∀ i : Nat, i < 31 → (Cond.eq (.field (xt_tm i) "java/lang/String" "coder" "B") (.int 0)).before #[Value.ref b] s = true := fun i hi => hfl _ (xt_fsi_in hi (List.mem_append_left _ (by simp)))
  have har : ∀ i : Nat, i < 31 → (Cond.arrayOf (xt_vt i) .byte).before #[Value.ref b] s = true := fun i hi => hfl _ (xt_fsi_in hi (List.mem_append_left _ (by simp)))
  have hle : ∀ i : Nat, i < 31 → (Cond.eq (.length (xt_vt i)) (.int (Int32.ofNat (xt_tl.getD i 0)))).before #[Value.ref b] s = true := fun i hi => hfl _ (xt_fsi_in hi (List.mem_append_left _ (by simp)))
  have hel : ∀ i : Nat, i < 31 → ∀ j : Nat, j < xt_tl.getD i 0 → (Cond.eq (.elem (xt_vt i) (.int (Int32.ofNat j))) (.int ((xt_tb.getD i []).getD j 0))).before #[Value.ref b] s = true := fun i hi j hj => hfl _ (xt_fsi_in hi (List.mem_append_right _ (List.mem_map.mpr ⟨j, List.mem_range.mpr hj, rfl⟩)))
  have h0 : ∀ i : Nat, ∃ q : Nat × Nat, i < 31 → (xt_tm i).eval #[Value.ref b] s none [] s = some (.ref q.1) ∧ va_O "java/lang/String" q.1 A s s.heap ∧ va_OF "java/lang/String" "coder" "B" (.int 0) q.1 A s s.heap ∧ va_OF "java/lang/String" "value" "[B" (.ref q.2) q.1 A s s.heap ∧ va_T .byte q.2 (xt_tl.getD i 0) (fun j => .int ((xt_tb.getD i []).getD j 0)) A s s.heap := by
    intro i
    by_cases hi : i < 31
    · obtain ⟨a, c, cA, kA, q1, q2, q3, q4, q5, q6, -⟩ := Cond.exactly_spec (args := #[Value.ref b]) (first := s) (o := none) (s := s) (idx := []) (t := xt_tm i) (cls := "java/lang/String") (hex i hi)
      obtain ⟨t, ht, hT⟩ := va_Tof (f := fun j => .int ((xt_tb.getD i []).getD j 0)) (A := A) (xt_len31 i hi) (har i hi) (va_eqt (hle i hi)) (fun j hj => va_eqt (hel i hi j hj)) hA
      exact ⟨(a, t), fun _ => ⟨q1, ⟨cA, q3, q5, by rw [q6]; exact q2, hA a (Array.getElem?_eq_some_iff.mp q3).1⟩, vk_OFof q1 (va_eqt (hco i hi)) hA, vk_OFof q1 ht hA, hT⟩⟩
    · exact ⟨(0, 0), fun h => absurd h hi⟩
  obtain ⟨ad, had⟩ := Classical.axiomOfChoice h0
  refine ⟨fun i => (ad i).1, fun i => (ad i).2, ⟨fun i hi => (had i hi).2, fun i j hi hj e => ?_⟩, fun i hi => (had i hi).1⟩
  by_cases hij : i = j
  · exact hij
  · exfalso
    have e1 : (ad i).1 = (ad j).1 := e
    obtain ⟨-, -, -, p4, p5⟩ := had i hi
    obtain ⟨-, -, -, r4, r5⟩ := had j hj
    rw [← e1] at r4
    have e2 := xt_OF_u p4 r4
    have e3 : (ad i).2 = (ad j).2 := by injection e2
    rw [← e3] at r5
    obtain ⟨g1, g2⟩ := xt_T_u (xt_len31 i hi) (xt_len31 j hj) p5 r5
    rcases xt_dif i j hi hj hij with h | ⟨k, hk, h⟩
    · exact h g1
    · have g3 := g2 k hk
      exact h (by injection g3)
theorem xt_tab_in {w : Cond} (h : w ∈ tables_1) : w ∈ lw_tbl := List.mem_append_right _ h
theorem xt_txat {i : Nat} {q : String × Nat × String} (h : xt_tx[i]? = some q) : i < 31 ∧ xt_tm i = .string q.1 q.2.1 ∧ q ∈ xt_tx := by
  refine ⟨(List.getElem?_eq_some_iff.mp h).1, ?_, List.mem_of_getElem? h⟩
  unfold xt_tm
  rw [List.getD_eq_getElem?_getD, h]
  rfl
theorem xt_arr1 {s : State} {args : Array Value} {ty : FieldType} (h : (Cond.arrayClass ty).before args s = true) (ho : ∀ C, ty ≠ .object C) : ∃ cA : ClassId, ArrOfT s cA ty ∧ va_RA s cA ty := by
  obtain ⟨c, k, comp, h1, h2, h3⟩ := Cond.arrayClass_spec h
  refine ⟨c, fun n z => ⟨fun k h => (by cases h), k, h2, comp, h3⟩, ?_⟩
  cases ty with
  | object C => exact absurd rfl (ho C)
  | _ => exact h1
theorem xt_arr2 {s : State} {args : Array Value} {C : String} (h : (Cond.arrayOver (.object C)).before args s = true) : ∃ cA : ClassId, ArrOfT s cA (.object C) ∧ va_RA s cA (.object C) := by
  obtain ⟨comp, c, k, h1, h2, h3, h4, h5⟩ := Cond.arrayOver_spec h
  exact ⟨c, fun n z => ⟨fun k h => (by cases h), k, h3, comp, h4⟩, k, comp, h3, h4, h1, h5⟩
theorem xt_ao_t : Cond.arrayOver (.object "WaveletTiler$Picture") ∈ tables_1 := List.mem_of_getElem? (i := 79) (by decide +kernel)
theorem xt_ls1 : Cond.laysStatic Bundle.tN "UNASSIGNED_STACK" Bundle.steD ∈ tables_1 := List.mem_of_getElem? (i := 289) (by decide +kernel)
theorem xt_ls2 : Cond.laysStatic Bundle.tN "SUPPRESSED_SENTINEL" Bundle.listD ∈ tables_1 := List.mem_of_getElem? (i := 291) (by decide +kernel)
theorem xt_ls3 : Cond.laysStatic "java/lang/String" "COMPACT_STRINGS" "Z" ∈ tables_1 := List.mem_of_getElem? (i := 876) (by decide +kernel)
theorem xt_ls4 : Cond.laysStatic "jdk/internal/util/Preconditions" "SIOOBE_FORMATTER" "Ljava/util/function/BiFunction;" ∈ tables_1 := List.mem_of_getElem? (i := 896) (by decide +kernel)
theorem xt_in1 : Cond.initialized Bundle.tN ∈ tables_1 := List.mem_of_getElem? (i := 8) (by decide +kernel)
theorem xt_in3 : Cond.initialized "java/lang/String" ∈ tables_1 := List.mem_of_getElem? (i := 18) (by decide +kernel)
theorem xt_in4 : Cond.initialized "jdk/internal/util/Preconditions" ∈ tables_1 := List.mem_of_getElem? (i := 20) (by decide +kernel)
theorem xt_g1 : Cond.isRef (.static Bundle.tN "UNASSIGNED_STACK" Bundle.steD) ∈ flatC (Jvm.Cond.and given_1 narrow_1) := List.mem_of_getElem? (i := 4) (by decide +kernel)
theorem xt_g2 : Cond.isRef (.static Bundle.tN "SUPPRESSED_SENTINEL" Bundle.listD) ∈ flatC (Jvm.Cond.and given_1 narrow_1) := List.mem_of_getElem? (i := 5) (by decide +kernel)
theorem xt_g3 : Cond.eq (.static "java/lang/String" "COMPACT_STRINGS" "Z") (.int 1) ∈ flatC (Jvm.Cond.and given_1 narrow_1) := List.mem_of_getElem? (i := 6) (by decide +kernel)
theorem xt_g4 : Cond.isRef (.static "jdk/internal/util/Preconditions" "SIOOBE_FORMATTER" "Ljava/util/function/BiFunction;") ∈ flatC (Jvm.Cond.and given_1 narrow_1) := List.mem_of_getElem? (i := 7) (by decide +kernel)
theorem xt_gc : ∀ q ∈ xt_nc, Cond.not (.castable q.1 q.2) ∈ flatC (Jvm.Cond.and given_1 narrow_1) := by
  have h : xt_nc.all (fun q => decide (Cond.not (.castable q.1 q.2) ∈ flatC (Jvm.Cond.and given_1 narrow_1))) = true := by decide +kernel
  intro q hq
  exact of_decide_eq_true (List.all_eq_true.mp h q hq)
theorem xt_begin {b : Addr} {s : State} (hts : ∀ w ∈ lw_tbl, w.before #[Value.ref b] s = true) (hgv : (Jvm.Cond.and given_1 narrow_1).before #[Value.ref b] s = true) : ∃ E : xt_Ev, E.2.1 = s.heap.size ∧ xt_K0 E s := by
  have hfl := flat_of_before _ hgv
  have htt : ∀ w ∈ tables_1, w.before #[Value.ref b] s = true := fun w hw => hts w (xt_tab_in hw)
  have htT : ∀ w ∈ xt_T, w.before #[Value.ref b] s = true := fun w hw => hts w (xt_T_in hw)
  have hA : ∀ a : Nat, a < s.heap.size → ¬ (s.heap.size ≤ a) := fun a h => Nat.not_le.mpr h
  obtain ⟨adK, adV, hstr, hev⟩ := xt_str (A := fun q => s.heap.size ≤ q) hgv hA
  have hcl : ∀ k : Nat, ∃ p : ClassId × (Nat → Nat), ∀ q : vw_C, vwCl[k]? = some q → u_Kn s q.1 q.2.1 q.2.2 p.1 p.2 := by
    intro k
    match k with
    | 0 => exact (u_known htT xt_u0 (htT _ it_X0)).elim fun c h => h.elim fun i h => ⟨(c, i), fun q hq => by cases hq; exact h⟩
    | 1 => exact (u_known htT xt_u1 (htT _ it_X1)).elim fun c h => h.elim fun i h => ⟨(c, i), fun q hq => by cases hq; exact h⟩
    | 2 => exact (u_known htT xt_u2 (htT _ it_X2)).elim fun c h => h.elim fun i h => ⟨(c, i), fun q hq => by cases hq; exact h⟩
    | 3 => exact (u_known htT xt_u3 (htT _ it_X3)).elim fun c h => h.elim fun i h => ⟨(c, i), fun q hq => by cases hq; exact h⟩
    | 4 => exact (u_known htT xt_u4 (htT _ it_X4)).elim fun c h => h.elim fun i h => ⟨(c, i), fun q hq => by cases hq; exact h⟩
    | 5 => exact (u_known htT xt_u5 (htT _ it_X5)).elim fun c h => h.elim fun i h => ⟨(c, i), fun q hq => by cases hq; exact h⟩
    | 6 => exact (u_known htT xt_u6 (htT _ it_X6)).elim fun c h => h.elim fun i h => ⟨(c, i), fun q hq => by cases hq; exact h⟩
    | k + 7 => exact ⟨(0, fun _ => 0), fun q hq => by simp [vwCl] at hq⟩
  obtain ⟨D, hD⟩ := Classical.axiomOfChoice hcl
  have har : ∀ k : Nat, ∃ cA : ClassId, ∀ ty : FieldType, [FieldType.int, .long, .double, .char, .boolean, .object "WaveletTiler$Picture"][k]? = some ty → ArrOfT s cA ty ∧ va_RA s cA ty := by
    intro k
    match k with
    | 0 => exact (xt_arr1 (htT _ ac_int) (fun C h => by cases h)).elim fun c h => ⟨c, fun ty hq => by cases hq; exact h⟩
    | 1 => exact (xt_arr1 (htT _ ac_long) (fun C h => by cases h)).elim fun c h => ⟨c, fun ty hq => by cases hq; exact h⟩
    | 2 => exact (xt_arr1 (htT _ ac_double) (fun C h => by cases h)).elim fun c h => ⟨c, fun ty hq => by cases hq; exact h⟩
    | 3 => exact (xt_arr1 (htT _ ac_char) (fun C h => by cases h)).elim fun c h => ⟨c, fun ty hq => by cases hq; exact h⟩
    | 4 => exact (xt_arr1 (htT _ ac_boolean) (fun C h => by cases h)).elim fun c h => ⟨c, fun ty hq => by cases hq; exact h⟩
    | 5 => exact (xt_arr2 (htt _ xt_ao_t)).elim fun c h => ⟨c, fun ty hq => by cases hq; exact h⟩
    | k + 6 => exact ⟨0, fun ty hq => by simp at hq⟩
  obtain ⟨cA, hcA⟩ := Classical.axiomOfChoice har
  refine ⟨(fun _ => 0, s.heap.size, (fun k => (D k).1, fun k => (D k).2), cA, adK, adV), rfl, ⟨⟨fun k q hq => hD k q hq, fun k q hq => ?_⟩, fun w hw => va_Nw.of (xt_nw_tab (List.mem_filter.mp hw).2) (htt _ (List.mem_filter.mp hw).1), ?_, ?_, hstr, fun i q hq => ?_, ?_, ?_, fun q hq => va_Nc.of (hfl _ (xt_gc q hq))⟩, va_AO.of (htt _ xt_ao_t)⟩
  · match k, hq with
    | 0, hq => cases hq; exact hcA 0 _ rfl
    | 1, hq => cases hq; exact hcA 1 _ rfl
    | 2, hq => cases hq; exact hcA 2 _ rfl
    | 3, hq => cases hq; exact hcA 3 _ rfl
    | 4, hq => cases hq; exact hcA 4 _ rfl
    | 5, hq => cases hq; exact hcA 5 _ rfl
    | k + 6, hq => simp [xt_ty] at hq
  · exact vx_Zqof (htt _ xt_ls1) (htt _ xt_in1) (hfl _ xt_g1) hA
  · exact vx_Zqof (htt _ xt_ls2) (htt _ xt_in1) (hfl _ xt_g2) hA
  · obtain ⟨g1, g2, g3⟩ := xt_txat hq
    exact vk_R.of (htt _ (xt_sr_in q g3)) (g2 ▸ hev i g1)
  · exact va_Zof (htt _ xt_ls3) (htt _ xt_in3) (va_eqt (hfl _ xt_g3)) hA
  · exact va_Zqof (htt _ xt_ls4) (htt _ xt_in4) (hfl _ xt_g4) hA
end XP1
