/-! THROWING -/
section XC24
variable {E : xt_Ev} {S : xt_St} {own : String} {cc : ByteArray} {nL : Nat} {ret : Option FieldType} {rm : Room} {cx : xt_Cx} {k n pc : Nat} {lo : List (Option Value)} {st : List Value}
def xt_up : List String := ["java/lang/RuntimeException", "java/lang/Exception"]
/-- the words of throwing X at the call ic -/
def xt_Xw (own : String) (ik ic : Nat) (X : String) : Prop := Bundle.fit X = true ∧ Cond.classLink own ik X ∈ xt_T ∧ Cond.initialized X ∈ xt_T ∧ ∀ w ∈ vx_atS own ic X xt_up, (w ∈ xt_T ∨ w ∈ xt_nw) ∧ vx_ot w = true
theorem xt_Lk_ext {H H1 : Heap} (h : xt_Lk E S H) (hs : ∀ q : Nat, q < H.size → H1[q]? = H[q]?) : xt_Lk E S H1 := by
  have hP : va_P E.2.2.1 vwCl (xt_wl E S) H := h
  exact va_P.kept hP (fun k q hk => hs q.1 (va_at.lt (hP k q hk)))
theorem xt_throwW {Q : Option Value → xt_St → Prop} {QX : String → xt_St → Prop} {k9 n9 : Nat} (C : xt_Ok own cc nL ret rm E cx) (hl : cx.2.1.stackTraces = false) (hx9 : ∀ x ∈ cx.2.2.2.2.2.2.2.2.2.exceptionTable.toList, False) {ik is ic i : Nat} {X tx : String} (hw : xt_Xw own ik ic X) (hi : xt_tx[i]? = some (own, is, tx))
    (d0 : decode cc pc = .ok (.new ik, 3)) (d3 : decode cc (pc + 3) = .ok (.dup, 1)) (d4 : decode cc (pc + 4) = .ok (.ldc_w is, 3)) (d7 : decode cc (pc + 7) = .ok (.invokespecial ic, 3)) (d10 : decode cc (pc + 10) = .ok (.athrow, 1))
    (hlo : lo.length = nL) (hr : 5 < rm.frames ∧ 90 ≤ rm.locals ∧ k + 1 ≤ rm.cells ∧ n + 6 ≤ rm.slots) (hst : (st.map fun v => v.category).sum ≤ 8) (hk : k + 1 ≤ k9 ∧ n + 6 ≤ n9) (hq : QX X S) : xt_X E cx (xt_ZX E cx k9 n9 Q QX) k n pc lo st S := by
  intro H locs ls h1 h2 h3
  obtain ⟨hx, hb, hml, hown, hts, hKn, hR, hlk, -⟩ := C
  subst hR
  exact vx_throwSW hx hb hl hown hw.1 (by decide +kernel) (hts _ hw.2.1) (hts _ hw.2.2.1) (hKn.2.2.2.2.2.2.1 i _ hi)
    (fun w h => (hw.2.2.2 w h).1.elim (fun h9 => hts w h9) (fun h9 => va_Nw.use (xt_nw_tab (List.mem_filter.mp h9).2) (hKn.2.2.1 w h9)))
    (fun w h => by
      rcases List.mem_cons.mp h with rfl | h
      · simp only [vx_ot, Bool.or_eq_true]; exact Or.inr (xt_T_good hw.2.1)
      rcases List.mem_cons.mp h with rfl | h
      · simp only [vx_ot, Bool.or_eq_true]; exact Or.inr (xt_T_good hw.2.2.1)
      · exact (hw.2.2.2 w h).2)
    hKn.2.2.2.1 hKn.2.2.2.2.1 h2 ((h3.1.trans hlo).trans hml.symm) d0 d3 d4 d7 d10 (fun x hx => (hx9 x hx).elim)
    hr.1 (by show _ + (13 * (2 + 1) + 43) ≤ _; have := hr.2.1; omega) hr.2.2.1 hr.2.2.2 hlk
    (fun t _ hs hq9 => ⟨⟨S, hq, xt_Lk_ext h1 hq9⟩, Nat.le_trans h2.1 hs, fun q g1 g2 => (hq9 q (Nat.lt_of_lt_of_le g1 h2.1)).trans (h2.2.1 q g1 g2)⟩) h2.2.2 hk.1 hk.2
theorem xt_throwS {Q : Option Value → xt_St → Prop} {QX : String → xt_St → Prop} {k9 n9 : Nat} (C : xt_Ok own cc nL ret rm E cx) (hl : cx.2.1.stackTraces = false) (hx9 : ∀ x ∈ cx.2.2.2.2.2.2.2.2.2.exceptionTable.toList, False) {ik is ic i : Nat} {X tx : String} (hw : xt_Xw own ik ic X) (hi : xt_tx[i]? = some (own, is, tx))
    (d0 : decode cc pc = .ok (.new ik, 3)) (d3 : decode cc (pc + 3) = .ok (.dup, 1)) (d4 : decode cc (pc + 4) = .ok (.ldc is, 2)) (d6 : decode cc (pc + 6) = .ok (.invokespecial ic, 3)) (d9 : decode cc (pc + 9) = .ok (.athrow, 1))
    (hlo : lo.length = nL) (hr : 5 < rm.frames ∧ 90 ≤ rm.locals ∧ k + 1 ≤ rm.cells ∧ n + 6 ≤ rm.slots) (hst : (st.map fun v => v.category).sum ≤ 8) (hk : k + 1 ≤ k9 ∧ n + 6 ≤ n9) (hq : QX X S) : xt_X E cx (xt_ZX E cx k9 n9 Q QX) k n pc lo st S := by
  intro H locs ls h1 h2 h3
  obtain ⟨hx, hb, hml, hown, hts, hKn, hR, hlk, -⟩ := C
  subst hR
  exact vx_throwS hx hb hl hown hw.1 (by decide +kernel) (hts _ hw.2.1) (hts _ hw.2.2.1) (hKn.2.2.2.2.2.2.1 i _ hi)
    (fun w h => (hw.2.2.2 w h).1.elim (fun h9 => hts w h9) (fun h9 => va_Nw.use (xt_nw_tab (List.mem_filter.mp h9).2) (hKn.2.2.1 w h9)))
    (fun w h => by
      rcases List.mem_cons.mp h with rfl | h
      · simp only [vx_ot, Bool.or_eq_true]; exact Or.inr (xt_T_good hw.2.1)
      rcases List.mem_cons.mp h with rfl | h
      · simp only [vx_ot, Bool.or_eq_true]; exact Or.inr (xt_T_good hw.2.2.1)
      · exact (hw.2.2.2 w h).2)
    hKn.2.2.2.1 hKn.2.2.2.2.1 h2 ((h3.1.trans hlo).trans hml.symm) d0 d3 d4 d6 d9 (fun x hx => (hx9 x hx).elim)
    hr.1 (by show _ + (13 * (2 + 1) + 43) ≤ _; have := hr.2.1; omega) hr.2.2.1 hr.2.2.2 hlk
    (fun t _ hs hq9 => ⟨⟨S, hq, xt_Lk_ext h1 hq9⟩, Nat.le_trans h2.1 hs, fun q g1 g2 => (hq9 q (Nat.lt_of_lt_of_le g1 h2.1)).trans (h2.2.1 q g1 g2)⟩) h2.2.2 hk.1 hk.2
theorem xt_Xw_all {own X : String} {ik ic : Nat} (h1 : Bundle.fit X = true) (h2 : (goodWord (Cond.classLink own ik X) && decide (Cond.classLink own ik X ∈ lw_tbl)) = true) (h3 : (goodWord (Cond.initialized X) && decide (Cond.initialized X ∈ lw_tbl)) = true) (h4 : ((vx_atS own ic X xt_up).all (fun w => ((goodWord w && decide (w ∈ lw_tbl)) || (xt_isN w && decide (w ∈ tables_1))) && vx_ot w)) = true) : xt_Xw own ik ic X := by
  simp only [Bool.and_eq_true, decide_eq_true_eq] at h2 h3
  refine ⟨h1, List.mem_filter.mpr ⟨h2.2, h2.1⟩, List.mem_filter.mpr ⟨h3.2, h3.1⟩, fun w hw => ?_⟩
  have h9 := List.all_eq_true.mp h4 w hw
  simp only [Bool.and_eq_true, Bool.or_eq_true, decide_eq_true_eq] at h9
  refine ⟨?_, h9.2⟩
  rcases h9.1 with h8 | h8
  · exact Or.inl (List.mem_filter.mpr ⟨h8.2, h8.1⟩)
  · exact Or.inr (List.mem_filter.mpr ⟨h8.2, h8.1⟩)
theorem xw_65 : xt_Xw RX5 65 69 "java/lang/IllegalArgumentException" := xt_Xw_all (by decide +kernel) (by decide +kernel) (by decide +kernel) (by decide +kernel)
theorem xw_134 : xt_Xw RX5 134 138 "java/lang/IndexOutOfBoundsException" := xt_Xw_all (by decide +kernel) (by decide +kernel) (by decide +kernel) (by decide +kernel)
theorem xw_209 : xt_Xw RX5 209 213 "java/lang/UnsupportedOperationException" := xt_Xw_all (by decide +kernel) (by decide +kernel) (by decide +kernel) (by decide +kernel)
theorem xw_309 : xt_Xw RX5 309 313 "java/lang/IllegalStateException" := xt_Xw_all (by decide +kernel) (by decide +kernel) (by decide +kernel) (by decide +kernel)
end XC24
