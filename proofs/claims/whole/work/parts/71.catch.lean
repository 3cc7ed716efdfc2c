/-! calls that may throw, in a frame that may catch -/
section XC39
variable {E : xt_Ev} {cx : xt_Cx} {Z : State → Prop} {k n pc nL : Nat} {lo : List (Option Value)} {st st0 : List Value} {S : xt_St} {own : String} {cc : ByteArray} {ret : Option FieldType} {rm : Room}
variable {y : MethodName} {cy : ByteArray} {ny fr lw k1 n1 i index : Nat} {rt : Option FieldType} {As : List Value} {Q : Option Value → xt_St → Prop} {QX : String → xt_St → Prop}
/-- an exception of the class X on its way in this frame -/
def xt_XW (E : xt_Ev) (cx : xt_Cx) (Z : State → Prop) (k n pc : Nat) (lo : List (Option Value)) (st : List Value) (S : xt_St) (X : String) : Prop :=
  ∀ (H : Heap) (locs : List Loc) (ls : Array Slot) (q : Addr) (ce : Cell), xt_Lk E S H → va_S (xt_Af E) cx.2.2.2.2.1.heap H locs → xt_lh ls lo → H[q]? = some ce → ce.vm = .none → cx.2.2.2.2.1.vm.findClass X = some ce.cls →
    vx_W cx.1 cx.2.1 cx.2.2.1 cx.2.2.2.1 cx.2.2.2.2.1 cx.2.2.2.2.2.1 cx.2.2.2.2.2.2.1 cx.2.2.2.2.2.2.2.1 cx.2.2.2.2.2.2.2.2.1 cx.2.2.2.2.2.2.2.2.2 H locs k n Z (F0 cx.2.2.2.2.2.1 pc ls st) q
theorem xt_callVX {ci N : Nat} {T : u_T} {fs : List Value} (C : xt_Ok own cc nL ret rm E cx) (hm : xt_Mv y cy ny rt As.length) (hlk : Cond.methodLink own index y ∈ xt_T) (hct : xt_CtX E cx.2.1 y cy ny rt fr lw k1 n1 (.ref (E.1 i) :: As) S Q QX) (hs : st0 = As.reverse ++ .ref (E.1 i) :: st) (hi : i < xt_NC) (hc : xt_cell E S i = .inr (ci, fs)) (hcl : vwCl[ci]? = some (y.cls, T, N))
    (hr : fr + 1 ≤ rm.frames ∧ 8 + (ny + 11) + lw ≤ rm.locals ∧ k + k1 ≤ rm.cells ∧ n + n1 ≤ rm.slots) (hlo : lo.length = nL) (hw : (st.map fun v => v.category).sum ≤ 8) (d : decode cc pc = .ok (.invokevirtual index, 3)) (kk : ∀ v S', Q v S' → xt_X E cx Z (k + k1) (n + n1) (pc + 3) lo (v.toList ++ st) S') (kx : ∀ X S', QX X S' → xt_XW E cx Z (k + k1) (n + n1) pc lo st S' X) : xt_X E cx Z k n pc lo st0 S := by
  intro H locs ls h1 h2 h3
  obtain ⟨hx, hb, hml, hown, hts, hKn, hR, -⟩ := C
  subst hR
  have hrun := vx_runV (e := cx.2.2.1) (below := cx.2.2.2.2.2.2.2.1) (meth := cx.2.2.2.2.2.2.2.2.1) (c := cx.2.2.2.2.2.2.2.2.2) (locs := locs) (H := H) (cells := k) (slots := n) (Ts := xt_T) (As := As) (rest := st) (g := F0 cx.2.2.2.2.2.1 pc ls st0) ⟨hx, hb, hml, hown, hts⟩ hct ⟨⟨rfl, rfl, hr.1, hr.2.1, xt_good hts hm.1, List.mem_cons_self, hts _ hm.1, hts _ hm.2.2.2.1, hm.2.2.2.2.1, fun sig h => (Option.some.inj (by have h9 := hm.2.2.2.2.2; rw [h] at h9; exact h9)).symm, hts _ hlk⟩, hts _ hm.2.1, hts _ hm.2.2.1⟩ ⟨xt_blind, xt_recv hKn.2.1 h1 hi hc hcl, fun U hU hW => ⟨rfl, by rw [hU]; exact h1, xt_Kn_warm hW h2 hU hKn⟩⟩ rfl rfl (h3.1.trans hlo) hs (lv_room hw) d ⟨hr.2.2.1, hr.2.2.2⟩
  intro T9 hT X9
  rcases hrun T9 hT X9 with ⟨v, st₀, t, T', L, h0, X', hL, e1, e2, ⟨⟨v', S', hv, hq, hLk⟩, hz, hk⟩, hst⟩ | ⟨q, st₀, t, T', L, X, ce, h0, X', hL, e1, e2, ⟨⟨S', hq, hLk⟩, hz, hk⟩, hce, hcv, hcl9, hst⟩
  · cases hv
    rw [h0] at hz hk
    obtain ⟨t2, a1, b1⟩ := kk v S' hq T'.heap (locs ++ L) ls (by rw [e1]; exact hLk)
      ⟨Nat.le_trans h2.1 (by rw [e1]; exact hz), fun q g1 g2 => by rw [e1, hk q (Nat.lt_of_lt_of_le g1 h2.1) g2]; exact h2.2.1 q g1 g2, fun q hq => by
        rcases List.mem_append.mp hq with h | h
        · exact h2.2.2 q h
        · exact hL q h⟩ h3 T' rfl X'
    exact ⟨t2, hst t2 a1, b1⟩
  · rw [h0] at hz hk
    obtain ⟨t2, a1, b1⟩ := kx X S' hq T'.heap (locs ++ L) ls q ce (by rw [e1]; exact hLk)
      ⟨Nat.le_trans h2.1 (by rw [e1]; exact hz), fun q g1 g2 => by rw [e1, hk q (Nat.lt_of_lt_of_le g1 h2.1) g2]; exact h2.2.1 q g1 g2, fun q hq => by
        rcases List.mem_append.mp hq with h | h
        · exact h2.2.2 q h
        · exact hL q h⟩ h3 (by rw [e1]; exact hce) hcv hcl9 T' rfl X'
    exact ⟨t2, hst.trans a1, b1⟩
end XC39
