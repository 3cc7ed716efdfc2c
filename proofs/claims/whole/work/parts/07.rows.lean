section XT7
variable {E : xt_Ev} {cx : xt_Cx} {Z : State → Prop} {k n pc nL : Nat} {lo lo' : List (Option Value)} {st st0 : List Value} {S S1 : xt_St} {own : String} {cc : ByteArray} {ret : Option FieldType} {rm : Room}
theorem xt_31 {b : Nat} (hb : b < 32) : nI b &&& 31 = nI b := by
  have h := co_dec (N := 32) (P := fun b => nI b &&& 31 = nI b) (by decide +kernel) hb
  exact h
theorem xt_sm {b : Nat} (hb : b < 32) : ((nI b).toBitVec.smod 32).toNat = b := by
  have h := co_dec (N := 32) (P := fun b => ((nI b).toBitVec.smod 32).toNat = b) (by decide +kernel) hb
  exact h
theorem xt_iaddN (C : xt_Ok own cc nL ret rm E cx) {a b : Nat} (d : decode cc pc = .ok (.iadd, 1)) (kk : xt_X E cx Z k n (pc + 1) lo (.int (nI (a + b)) :: st) S) : xt_X E cx Z k n pc lo (.int (nI b) :: .int (nI a) :: st) S := by
  refine xt_iadd C d ?_
  rw [nI_add]; exact kk
theorem xt_isubN (C : xt_Ok own cc nL ret rm E cx) {a b : Nat} (d : decode cc pc = .ok (.isub, 1)) (h : b ≤ a) (kk : xt_X E cx Z k n (pc + 1) lo (.int (nI (a - b)) :: st) S) : xt_X E cx Z k n pc lo (.int (nI b) :: .int (nI a) :: st) S := by
  refine xt_isub C d ?_
  rw [pk_sub h]; exact kk
theorem xt_imulN (C : xt_Ok own cc nL ret rm E cx) {a b : Nat} (d : decode cc pc = .ok (.imul, 1)) (kk : xt_X E cx Z k n (pc + 1) lo (.int (nI (a * b)) :: st) S) : xt_X E cx Z k n pc lo (.int (nI b) :: .int (nI a) :: st) S := by
  refine xt_imul C d ?_
  rw [pk_mul]; exact kk
theorem xt_idivN (C : xt_Ok own cc nL ret rm E cx) {a b : Nat} (d : decode cc pc = .ok (.idiv, 1)) (ha : a < 2 ^ 31) (h0 : 0 < b) (hb : b < 2 ^ 31) (kk : xt_X E cx Z k n (pc + 1) lo (.int (nI (a / b)) :: st) S) : xt_X E cx Z k n pc lo (.int (nI b) :: .int (nI a) :: st) S := by
  refine xt_idiv C d (nI_ne0 h0 hb) ?_
  rw [pk_div ha h0 hb]; exact kk
theorem xt_iremN (C : xt_Ok own cc nL ret rm E cx) {a b : Nat} (d : decode cc pc = .ok (.irem, 1)) (ha : a < 2 ^ 31) (h0 : 0 < b) (hb : b < 2 ^ 31) (kk : xt_X E cx Z k n (pc + 1) lo (.int (nI (a % b)) :: st) S) : xt_X E cx Z k n pc lo (.int (nI b) :: .int (nI a) :: st) S := by
  exact xt_irem C d (nI_ne0 h0 hb) (pk_rem ha h0 hb) kk
theorem xt_ishrN (C : xt_Ok own cc nL ret rm E cx) {a b : Nat} (d : decode cc pc = .ok (.ishr, 1)) (ha : a < 2 ^ 31) (hb : b < 32) (kk : xt_X E cx Z k n (pc + 1) lo (.int (nI (a / 2 ^ b)) :: st) S) : xt_X E cx Z k n pc lo (.int (nI b) :: .int (nI a) :: st) S := by
  refine xt_ishr C d ?_
  rw [xt_31 hb, pk_shrN ha _ b (xt_sm hb)]; exact kk
theorem xt_ishlN (C : xt_Ok own cc nL ret rm E cx) {a b : Nat} (d : decode cc pc = .ok (.ishl, 1)) (ha : a * 2 ^ b < 2 ^ 31) (hb : b < 32) (kk : xt_X E cx Z k n (pc + 1) lo (.int (nI (a * 2 ^ b)) :: st) S) : xt_X E cx Z k n pc lo (.int (nI b) :: .int (nI a) :: st) S := by
  refine xt_ishl C d ?_
  rw [xt_31 hb, pk_shlN _ b (xt_sm hb) (by omega)]; exact kk
theorem xt_icmp_eqN (C : xt_Ok own cc nL ret rm E cx) {a b : Nat} {off : Int} {tgt : Nat} (d : decode cc pc = .ok (.if_icmp .eq off, 3)) (ht : (pc : Int) + off = (tgt : Int)) (ha : a < 2 ^ 31) (hb : b < 2 ^ 31) (kt : a = b → xt_X E cx Z k n tgt lo st S) (kf : ¬ a = b → xt_X E cx Z k n (pc + 3) lo st S) : xt_X E cx Z k n pc lo (.int (nI b) :: .int (nI a) :: st) S := xt_icmp_eq C d ht (fun h => kt ((nI_eq ha hb).mp h)) (fun h => kf (fun z => h ((nI_eq ha hb).mpr z)))
theorem xt_icmp_neN (C : xt_Ok own cc nL ret rm E cx) {a b : Nat} {off : Int} {tgt : Nat} (d : decode cc pc = .ok (.if_icmp .ne off, 3)) (ht : (pc : Int) + off = (tgt : Int)) (ha : a < 2 ^ 31) (hb : b < 2 ^ 31) (kt : ¬ a = b → xt_X E cx Z k n tgt lo st S) (kf : a = b → xt_X E cx Z k n (pc + 3) lo st S) : xt_X E cx Z k n pc lo (.int (nI b) :: .int (nI a) :: st) S := xt_icmp_ne C d ht (fun h => kt (fun z => h ((nI_eq ha hb).mpr z))) (fun h => kf ((nI_eq ha hb).mp h))
theorem xt_icmp_ltN (C : xt_Ok own cc nL ret rm E cx) {a b : Nat} {off : Int} {tgt : Nat} (d : decode cc pc = .ok (.if_icmp .lt off, 3)) (ht : (pc : Int) + off = (tgt : Int)) (ha : a < 2 ^ 31) (hb : b < 2 ^ 31) (kt : a < b → xt_X E cx Z k n tgt lo st S) (kf : b ≤ a → xt_X E cx Z k n (pc + 3) lo st S) : xt_X E cx Z k n pc lo (.int (nI b) :: .int (nI a) :: st) S := xt_icmp_lt C d ht (fun h => kt ((nI_ltI ha hb).mp h)) (fun h => kf (Nat.le_of_not_lt fun z => h ((nI_ltI ha hb).mpr z)))
theorem xt_icmp_geN (C : xt_Ok own cc nL ret rm E cx) {a b : Nat} {off : Int} {tgt : Nat} (d : decode cc pc = .ok (.if_icmp .ge off, 3)) (ht : (pc : Int) + off = (tgt : Int)) (ha : a < 2 ^ 31) (hb : b < 2 ^ 31) (kt : b ≤ a → xt_X E cx Z k n tgt lo st S) (kf : a < b → xt_X E cx Z k n (pc + 3) lo st S) : xt_X E cx Z k n pc lo (.int (nI b) :: .int (nI a) :: st) S := xt_icmp_ge C d ht (fun h => kt ((nI_leI hb ha).mp h)) (fun h => kf (Nat.lt_of_not_le fun z => h ((nI_leI hb ha).mpr z)))
theorem xt_icmp_gtN (C : xt_Ok own cc nL ret rm E cx) {a b : Nat} {off : Int} {tgt : Nat} (d : decode cc pc = .ok (.if_icmp .gt off, 3)) (ht : (pc : Int) + off = (tgt : Int)) (ha : a < 2 ^ 31) (hb : b < 2 ^ 31) (kt : b < a → xt_X E cx Z k n tgt lo st S) (kf : a ≤ b → xt_X E cx Z k n (pc + 3) lo st S) : xt_X E cx Z k n pc lo (.int (nI b) :: .int (nI a) :: st) S := xt_icmp_gt C d ht (fun h => kt ((nI_ltI hb ha).mp h)) (fun h => kf (Nat.le_of_not_lt fun z => h ((nI_ltI hb ha).mpr z)))
theorem xt_icmp_leN (C : xt_Ok own cc nL ret rm E cx) {a b : Nat} {off : Int} {tgt : Nat} (d : decode cc pc = .ok (.if_icmp .le off, 3)) (ht : (pc : Int) + off = (tgt : Int)) (ha : a < 2 ^ 31) (hb : b < 2 ^ 31) (kt : a ≤ b → xt_X E cx Z k n tgt lo st S) (kf : b < a → xt_X E cx Z k n (pc + 3) lo st S) : xt_X E cx Z k n pc lo (.int (nI b) :: .int (nI a) :: st) S := xt_icmp_le C d ht (fun h => kt ((nI_leI ha hb).mp h)) (fun h => kf (Nat.lt_of_not_le fun z => h ((nI_leI ha hb).mpr z)))
theorem xt_if_eqN (C : xt_Ok own cc nL ret rm E cx) {a : Nat} {off : Int} {tgt : Nat} (d : decode cc pc = .ok (.ifCond .eq off, 3)) (ht : (pc : Int) + off = (tgt : Int)) (ha : a < 2 ^ 31) (kt : a = 0 → xt_X E cx Z k n tgt lo st S) (kf : 0 < a → xt_X E cx Z k n (pc + 3) lo st S) : xt_X E cx Z k n pc lo (.int (nI a) :: st) S := xt_if_eq C d ht (fun h => kt (Nat.eq_zero_of_not_pos fun z => nI_ne0 z ha h)) (fun h => kf (Nat.pos_of_ne_zero fun z => h (by rw [z]; rfl)))
theorem xt_if_neN (C : xt_Ok own cc nL ret rm E cx) {a : Nat} {off : Int} {tgt : Nat} (d : decode cc pc = .ok (.ifCond .ne off, 3)) (ht : (pc : Int) + off = (tgt : Int)) (ha : a < 2 ^ 31) (kt : 0 < a → xt_X E cx Z k n tgt lo st S) (kf : a = 0 → xt_X E cx Z k n (pc + 3) lo st S) : xt_X E cx Z k n pc lo (.int (nI a) :: st) S := xt_if_ne C d ht (fun h => kt (Nat.pos_of_ne_zero fun z => h (by rw [z]; rfl))) (fun h => kf (Nat.eq_zero_of_not_pos fun z => nI_ne0 z ha h))
theorem xt_if_gtN (C : xt_Ok own cc nL ret rm E cx) {a : Nat} {off : Int} {tgt : Nat} (d : decode cc pc = .ok (.ifCond .gt off, 3)) (ht : (pc : Int) + off = (tgt : Int)) (ha : a < 2 ^ 31) (kt : 0 < a → xt_X E cx Z k n tgt lo st S) (kf : a = 0 → xt_X E cx Z k n (pc + 3) lo st S) : xt_X E cx Z k n pc lo (.int (nI a) :: st) S := xt_if_gt C d ht (fun h => kt ((nI_ltI (a := 0) (by decide) ha).mp h)) (fun h => kf (Nat.eq_zero_of_not_pos fun z => h ((nI_ltI (a := 0) (by decide) ha).mpr z)))
theorem xt_if_leN (C : xt_Ok own cc nL ret rm E cx) {a : Nat} {off : Int} {tgt : Nat} (d : decode cc pc = .ok (.ifCond .le off, 3)) (ht : (pc : Int) + off = (tgt : Int)) (ha : a < 2 ^ 31) (kt : a = 0 → xt_X E cx Z k n tgt lo st S) (kf : 0 < a → xt_X E cx Z k n (pc + 3) lo st S) : xt_X E cx Z k n pc lo (.int (nI a) :: st) S := xt_if_le C d ht (fun h => kt (Nat.eq_zero_of_not_pos fun z => nI_nle z ha h)) (fun h => kf (Nat.pos_of_ne_zero fun z => h (by rw [z]; decide)))
theorem xt_if_ltN (C : xt_Ok own cc nL ret rm E cx) {a : Nat} {off : Int} {tgt : Nat} (d : decode cc pc = .ok (.ifCond .lt off, 3)) (ht : (pc : Int) + off = (tgt : Int)) (ha : a < 2 ^ 31) (kf : xt_X E cx Z k n (pc + 3) lo st S) : xt_X E cx Z k n pc lo (.int (nI a) :: st) S := xt_if_lt C d ht (fun h => absurd h (nI_pos ha)) (fun _ => kf)
theorem xt_if_geN (C : xt_Ok own cc nL ret rm E cx) {a : Nat} {off : Int} {tgt : Nat} (d : decode cc pc = .ok (.ifCond .ge off, 3)) (ht : (pc : Int) + off = (tgt : Int)) (ha : a < 2 ^ 31) (kt : xt_X E cx Z k n tgt lo st S) : xt_X E cx Z k n pc lo (.int (nI a) :: st) S := xt_if_ge C d ht (fun _ => kt) (fun h => absurd (nI_pos' ha) h)
theorem xt_iincN (C : xt_Ok own cc nL ret rm E cx) {q z a : Nat} (d : decode cc pc = .ok (.iinc q (z : Int), 3)) (hx : lo[q]? = some (some (.int (nI a)))) (hc : xt_cat2 lo q = false) (hl : lo.set q (some (.int (nI (a + z)))) = lo') (kk : xt_X E cx Z k n (pc + 3) lo' st S) : xt_X E cx Z k n pc lo st S := xt_iinc C d hx (nI_add a z) hc hl kk
theorem xt_ialdN (C : xt_Ok own cc nL ret rm E cx) {i len : Nat} (hi : i < xt_NC) (ha : xt_ar E 0 i len) {j : Nat} {v : Int32} (hj : j < len) (hl : len < 2 ^ 31) (hv : S.2.1 i j = v) (d : decode cc pc = .ok (.iaload, 1)) (kk : xt_X E cx Z k n (pc + 1) lo (.int v :: st) S) : xt_X E cx Z k n pc lo (.int (nI j) :: .ref (E.1 i) :: st) S := xt_iald C hi ha (vp_in_nI hj hl) (by rw [nI_clamp (by omega)]; exact hv) d kk
theorem xt_caldN (C : xt_Ok own cc nL ret rm E cx) {i len : Nat} (hi : i < xt_NC) (ha : xt_ar E 3 i len) {j : Nat} {v : Int32} (hj : j < len) (hl : len < 2 ^ 31) (hv : S.2.1 i j = v) (d : decode cc pc = .ok (.caload, 1)) (kk : xt_X E cx Z k n (pc + 1) lo (.int v :: st) S) : xt_X E cx Z k n pc lo (.int (nI j) :: .ref (E.1 i) :: st) S := xt_cald C hi ha (vp_in_nI hj hl) (by rw [nI_clamp (by omega)]; exact hv) d kk
theorem xt_zaldN (C : xt_Ok own cc nL ret rm E cx) {i len : Nat} (hi : i < xt_NC) (ha : xt_ar E 4 i len) {j : Nat} {v : Int32} (hj : j < len) (hl : len < 2 ^ 31) (hv : S.2.1 i j = v) (d : decode cc pc = .ok (.baload, 1)) (kk : xt_X E cx Z k n (pc + 1) lo (.int v :: st) S) : xt_X E cx Z k n pc lo (.int (nI j) :: .ref (E.1 i) :: st) S := xt_zald C hi ha (vp_in_nI hj hl) (by rw [nI_clamp (by omega)]; exact hv) d kk
theorem xt_iastN (C : xt_Ok own cc nL ret rm E cx) {i len : Nat} (hi : i < xt_NC) (ha : xt_ar E 0 i len) {j : Nat} {x : Int32} (hj : j < len) (hl : len < 2 ^ 31) (d : decode cc pc = .ok (.iastore, 1)) (kk : xt_X E cx Z k n (pc + 1) lo st (xt_sA S i (upd (S.2.1 i) j x))) : xt_X E cx Z k n pc lo (.int x :: .int (nI j) :: .ref (E.1 i) :: st) S := xt_iast C hi ha (vp_in_nI hj hl) d (by rw [nI_clamp (by omega)]; exact kk)
theorem xt_castN (C : xt_Ok own cc nL ret rm E cx) {i len : Nat} (hi : i < xt_NC) (ha : xt_ar E 3 i len) {j : Nat} {x : Int32} (hj : j < len) (hl : len < 2 ^ 31) (d : decode cc pc = .ok (.castore, 1)) (kk : xt_X E cx Z k n (pc + 1) lo st (xt_sA S i (upd (S.2.1 i) j (vp_nar .char x)))) : xt_X E cx Z k n pc lo (.int x :: .int (nI j) :: .ref (E.1 i) :: st) S := xt_cast C hi ha (vp_in_nI hj hl) d (by rw [nI_clamp (by omega)]; exact kk)
theorem xt_zastN (C : xt_Ok own cc nL ret rm E cx) {i len : Nat} (hi : i < xt_NC) (ha : xt_ar E 4 i len) {j : Nat} {x : Int32} (hj : j < len) (hl : len < 2 ^ 31) (d : decode cc pc = .ok (.bastore, 1)) (kk : xt_X E cx Z k n (pc + 1) lo st (xt_sA S i (upd (S.2.1 i) j (vp_nar .boolean x)))) : xt_X E cx Z k n pc lo (.int x :: .int (nI j) :: .ref (E.1 i) :: st) S := xt_zast C hi ha (vp_in_nI hj hl) d (by rw [nI_clamp (by omega)]; exact kk)
theorem xt_laldN (C : xt_Ok own cc nL ret rm E cx) {i len : Nat} (hi : i < xt_NC) (ha : xt_arB E i len) {j : Nat} {v : Int64} (hj : j < len) (hl : len < 2 ^ 31) (hv : S.2.2.1 i j = v) (d : decode cc pc = .ok (.laload, 1)) (kk : xt_X E cx Z k n (pc + 1) lo (.long v :: st) S) : xt_X E cx Z k n pc lo (.int (nI j) :: .ref (E.1 i) :: st) S := xt_lald C hi ha (vp_in_nI hj hl) (by rw [nI_clamp (by omega)]; exact hv) d kk
theorem xt_lastN (C : xt_Ok own cc nL ret rm E cx) {i len : Nat} (hi : i < xt_NC) (ha : xt_arB E i len) {j : Nat} {x : Int64} (hj : j < len) (hl : len < 2 ^ 31) (d : decode cc pc = .ok (.lastore, 1)) (kk : xt_X E cx Z k n (pc + 1) lo st (xt_sB S i (vp_updL (S.2.2.1 i) j x))) : xt_X E cx Z k n pc lo (.long x :: .int (nI j) :: .ref (E.1 i) :: st) S := xt_last C hi ha (vp_in_nI hj hl) d (by rw [nI_clamp (by omega)]; exact kk)
variable {y : MethodName} {cy : ByteArray} {ny fr lw i index : Nat} {rt : Option FieldType} {As : List Value} {r : Value}
theorem xt_cV {ci N : Nat} {T : u_T} {fs : List Value} (C : xt_Ok own cc nL ret rm E cx) (hm : xt_Mv y cy ny rt As.length) (hlk : Cond.methodLink own index y ∈ xt_T) (hct : xt_Ct E cx.2.1 y cy ny rt fr lw 0 0 (.ref (E.1 i) :: As) S (xt_Eq (some r) S1)) (hs : st0 = As.reverse ++ .ref (E.1 i) :: st) (hi : i < xt_NC) (hc : xt_cell E S i = .inr (ci, fs)) (hcl : vwCl[ci]? = some (y.cls, T, N)) (hr : fr + 1 ≤ rm.frames ∧ 8 + (ny + 11) + lw ≤ rm.locals ∧ k ≤ rm.cells ∧ n ≤ rm.slots) (hlo : lo.length = nL) (hw : (st.map fun v => v.category).sum ≤ 8) (d : decode cc pc = .ok (.invokevirtual index, 3)) (kk : xt_X E cx Z k n (pc + 3) lo (r :: st) S1) : xt_X E cx Z k n pc lo st0 S := xt_callV C hm hlk hct hs hi hc hcl hr hlo hw d (fun v S2 h => by obtain ⟨rfl, rfl⟩ := h; exact kk)
theorem xt_cVn {ci N : Nat} {T : u_T} {fs : List Value} (C : xt_Ok own cc nL ret rm E cx) (hm : xt_Mv y cy ny rt As.length) (hlk : Cond.methodLink own index y ∈ xt_T) (hct : xt_Ct E cx.2.1 y cy ny rt fr lw 0 0 (.ref (E.1 i) :: As) S (xt_Eq none S1)) (hs : st0 = As.reverse ++ .ref (E.1 i) :: st) (hi : i < xt_NC) (hc : xt_cell E S i = .inr (ci, fs)) (hcl : vwCl[ci]? = some (y.cls, T, N)) (hr : fr + 1 ≤ rm.frames ∧ 8 + (ny + 11) + lw ≤ rm.locals ∧ k ≤ rm.cells ∧ n ≤ rm.slots) (hlo : lo.length = nL) (hw : (st.map fun v => v.category).sum ≤ 8) (d : decode cc pc = .ok (.invokevirtual index, 3)) (kk : xt_X E cx Z k n (pc + 3) lo st S1) : xt_X E cx Z k n pc lo st0 S := xt_callV C hm hlk hct hs hi hc hcl hr hlo hw d (fun v S2 h => by obtain ⟨rfl, rfl⟩ := h; exact kk)
theorem xt_cVq {Q : Option Value → xt_St → Prop} {ci N : Nat} {T : u_T} {fs : List Value} (C : xt_Ok own cc nL ret rm E cx) (hm : xt_Mv y cy ny rt As.length) (hlk : Cond.methodLink own index y ∈ xt_T) (hct : xt_Ct E cx.2.1 y cy ny rt fr lw 0 0 (.ref (E.1 i) :: As) S Q) (hs : st0 = As.reverse ++ .ref (E.1 i) :: st) (hi : i < xt_NC) (hc : xt_cell E S i = .inr (ci, fs)) (hcl : vwCl[ci]? = some (y.cls, T, N)) (hr : fr + 1 ≤ rm.frames ∧ 8 + (ny + 11) + lw ≤ rm.locals ∧ k ≤ rm.cells ∧ n ≤ rm.slots) (hlo : lo.length = nL) (hw : (st.map fun v => v.category).sum ≤ 8) (d : decode cc pc = .ok (.invokevirtual index, 3)) (kk : ∀ v S2, Q v S2 → xt_X E cx Z k n (pc + 3) lo (v.toList ++ st) S2) : xt_X E cx Z k n pc lo st0 S := xt_callV C hm hlk hct hs hi hc hcl hr hlo hw d kk
theorem xt_cVN {ci N : Nat} {T : u_T} {fs : List Value} {host : String} (C : xt_Ok own cc nL ret rm E cx) (hm : xt_Mv y cy ny rt As.length) (hlk : Cond.methodLinkNest own index y host ∈ xt_nw) (hct : xt_Ct E cx.2.1 y cy ny rt fr lw 0 0 (.ref (E.1 i) :: As) S (xt_Eq (some r) S1)) (hs : st0 = As.reverse ++ .ref (E.1 i) :: st) (hi : i < xt_NC) (hc : xt_cell E S i = .inr (ci, fs)) (hcl : vwCl[ci]? = some (y.cls, T, N)) (hr : fr + 1 ≤ rm.frames ∧ 8 + (ny + 11) + lw ≤ rm.locals ∧ k ≤ rm.cells ∧ n ≤ rm.slots) (hlo : lo.length = nL) (hw : (st.map fun v => v.category).sum ≤ 8) (d : decode cc pc = .ok (.invokevirtual index, 3)) (kk : xt_X E cx Z k n (pc + 3) lo (r :: st) S1) : xt_X E cx Z k n pc lo st0 S := xt_callVN C hm hlk hct hs hi hc hcl hr hlo hw d (fun v S2 h => by obtain ⟨rfl, rfl⟩ := h; exact kk)
theorem xt_cVNn {ci N : Nat} {T : u_T} {fs : List Value} {host : String} (C : xt_Ok own cc nL ret rm E cx) (hm : xt_Mv y cy ny rt As.length) (hlk : Cond.methodLinkNest own index y host ∈ xt_nw) (hct : xt_Ct E cx.2.1 y cy ny rt fr lw 0 0 (.ref (E.1 i) :: As) S (xt_Eq none S1)) (hs : st0 = As.reverse ++ .ref (E.1 i) :: st) (hi : i < xt_NC) (hc : xt_cell E S i = .inr (ci, fs)) (hcl : vwCl[ci]? = some (y.cls, T, N)) (hr : fr + 1 ≤ rm.frames ∧ 8 + (ny + 11) + lw ≤ rm.locals ∧ k ≤ rm.cells ∧ n ≤ rm.slots) (hlo : lo.length = nL) (hw : (st.map fun v => v.category).sum ≤ 8) (d : decode cc pc = .ok (.invokevirtual index, 3)) (kk : xt_X E cx Z k n (pc + 3) lo st S1) : xt_X E cx Z k n pc lo st0 S := xt_callVN C hm hlk hct hs hi hc hcl hr hlo hw d (fun v S2 h => by obtain ⟨rfl, rfl⟩ := h; exact kk)
theorem xt_cVNq {Q : Option Value → xt_St → Prop} {ci N : Nat} {T : u_T} {fs : List Value} {host : String} (C : xt_Ok own cc nL ret rm E cx) (hm : xt_Mv y cy ny rt As.length) (hlk : Cond.methodLinkNest own index y host ∈ xt_nw) (hct : xt_Ct E cx.2.1 y cy ny rt fr lw 0 0 (.ref (E.1 i) :: As) S Q) (hs : st0 = As.reverse ++ .ref (E.1 i) :: st) (hi : i < xt_NC) (hc : xt_cell E S i = .inr (ci, fs)) (hcl : vwCl[ci]? = some (y.cls, T, N)) (hr : fr + 1 ≤ rm.frames ∧ 8 + (ny + 11) + lw ≤ rm.locals ∧ k ≤ rm.cells ∧ n ≤ rm.slots) (hlo : lo.length = nL) (hw : (st.map fun v => v.category).sum ≤ 8) (d : decode cc pc = .ok (.invokevirtual index, 3)) (kk : ∀ v S2, Q v S2 → xt_X E cx Z k n (pc + 3) lo (v.toList ++ st) S2) : xt_X E cx Z k n pc lo st0 S := xt_callVN C hm hlk hct hs hi hc hcl hr hlo hw d kk
theorem xt_cS (C : xt_Ok own cc nL ret rm E cx) (hm : xt_Ms y cy ny rt As.length) (hlk : Cond.methodLink own index y ∈ xt_T) (hct : xt_Ct E cx.2.1 y cy ny rt fr lw 0 0 As S (xt_Eq (some r) S1)) (hs : st0 = As.reverse ++ st) (hr : fr + 1 ≤ rm.frames ∧ 8 + (ny + 11) + lw ≤ rm.locals ∧ k ≤ rm.cells ∧ n ≤ rm.slots) (hlo : lo.length = nL) (hw : (st.map fun v => v.category).sum ≤ 8) (d : decode cc pc = .ok (.invokestatic index, 3)) (kk : xt_X E cx Z k n (pc + 3) lo (r :: st) S1) : xt_X E cx Z k n pc lo st0 S := xt_callS C hm hlk hct hs hr hlo hw d (fun v S2 h => by obtain ⟨rfl, rfl⟩ := h; exact kk)
theorem xt_cSn (C : xt_Ok own cc nL ret rm E cx) (hm : xt_Ms y cy ny rt As.length) (hlk : Cond.methodLink own index y ∈ xt_T) (hct : xt_Ct E cx.2.1 y cy ny rt fr lw 0 0 As S (xt_Eq none S1)) (hs : st0 = As.reverse ++ st) (hr : fr + 1 ≤ rm.frames ∧ 8 + (ny + 11) + lw ≤ rm.locals ∧ k ≤ rm.cells ∧ n ≤ rm.slots) (hlo : lo.length = nL) (hw : (st.map fun v => v.category).sum ≤ 8) (d : decode cc pc = .ok (.invokestatic index, 3)) (kk : xt_X E cx Z k n (pc + 3) lo st S1) : xt_X E cx Z k n pc lo st0 S := xt_callS C hm hlk hct hs hr hlo hw d (fun v S2 h => by obtain ⟨rfl, rfl⟩ := h; exact kk)
theorem xt_cSq {Q : Option Value → xt_St → Prop} (C : xt_Ok own cc nL ret rm E cx) (hm : xt_Ms y cy ny rt As.length) (hlk : Cond.methodLink own index y ∈ xt_T) (hct : xt_Ct E cx.2.1 y cy ny rt fr lw 0 0 As S Q) (hs : st0 = As.reverse ++ st) (hr : fr + 1 ≤ rm.frames ∧ 8 + (ny + 11) + lw ≤ rm.locals ∧ k ≤ rm.cells ∧ n ≤ rm.slots) (hlo : lo.length = nL) (hw : (st.map fun v => v.category).sum ≤ 8) (d : decode cc pc = .ok (.invokestatic index, 3)) (kk : ∀ v S2, Q v S2 → xt_X E cx Z k n (pc + 3) lo (v.toList ++ st) S2) : xt_X E cx Z k n pc lo st0 S := xt_callS C hm hlk hct hs hr hlo hw d kk
theorem xt_cSN {host : String} (C : xt_Ok own cc nL ret rm E cx) (hm : xt_Ms y cy ny rt As.length) (hlk : Cond.methodLinkNest own index y host ∈ xt_nw) (hct : xt_Ct E cx.2.1 y cy ny rt fr lw 0 0 As S (xt_Eq (some r) S1)) (hs : st0 = As.reverse ++ st) (hr : fr + 1 ≤ rm.frames ∧ 8 + (ny + 11) + lw ≤ rm.locals ∧ k ≤ rm.cells ∧ n ≤ rm.slots) (hlo : lo.length = nL) (hw : (st.map fun v => v.category).sum ≤ 8) (d : decode cc pc = .ok (.invokestatic index, 3)) (kk : xt_X E cx Z k n (pc + 3) lo (r :: st) S1) : xt_X E cx Z k n pc lo st0 S := xt_callSN C hm hlk hct hs hr hlo hw d (fun v S2 h => by obtain ⟨rfl, rfl⟩ := h; exact kk)
theorem xt_cSNn {host : String} (C : xt_Ok own cc nL ret rm E cx) (hm : xt_Ms y cy ny rt As.length) (hlk : Cond.methodLinkNest own index y host ∈ xt_nw) (hct : xt_Ct E cx.2.1 y cy ny rt fr lw 0 0 As S (xt_Eq none S1)) (hs : st0 = As.reverse ++ st) (hr : fr + 1 ≤ rm.frames ∧ 8 + (ny + 11) + lw ≤ rm.locals ∧ k ≤ rm.cells ∧ n ≤ rm.slots) (hlo : lo.length = nL) (hw : (st.map fun v => v.category).sum ≤ 8) (d : decode cc pc = .ok (.invokestatic index, 3)) (kk : xt_X E cx Z k n (pc + 3) lo st S1) : xt_X E cx Z k n pc lo st0 S := xt_callSN C hm hlk hct hs hr hlo hw d (fun v S2 h => by obtain ⟨rfl, rfl⟩ := h; exact kk)
theorem xt_cSNq {Q : Option Value → xt_St → Prop} {host : String} (C : xt_Ok own cc nL ret rm E cx) (hm : xt_Ms y cy ny rt As.length) (hlk : Cond.methodLinkNest own index y host ∈ xt_nw) (hct : xt_Ct E cx.2.1 y cy ny rt fr lw 0 0 As S Q) (hs : st0 = As.reverse ++ st) (hr : fr + 1 ≤ rm.frames ∧ 8 + (ny + 11) + lw ≤ rm.locals ∧ k ≤ rm.cells ∧ n ≤ rm.slots) (hlo : lo.length = nL) (hw : (st.map fun v => v.category).sum ≤ 8) (d : decode cc pc = .ok (.invokestatic index, 3)) (kk : ∀ v S2, Q v S2 → xt_X E cx Z k n (pc + 3) lo (v.toList ++ st) S2) : xt_X E cx Z k n pc lo st0 S := xt_callSN C hm hlk hct hs hr hlo hw d kk
theorem xt_up_s {f : Nat → Int32} {j : Nat} {x : Int32} : upd f j x j = x := by simp [upd]
theorem xt_up_n {f : Nat → Int32} {i j : Nat} {x : Int32} (h : j ≠ i) : upd f i x j = f j := by simp [upd, h]
theorem xt_sA_s {S : xt_St} {i : Nat} {g : Nat → Int32} : (xt_sA S i g).2.1 i = g := by simp [xt_sA]
theorem xt_sA_n {S : xt_St} {i j : Nat} {g : Nat → Int32} (h : j ≠ i) : (xt_sA S i g).2.1 j = S.2.1 j := by simp [xt_sA, h]
theorem xt_sA_sA {S : xt_St} {i : Nat} {g h : Nat → Int32} : xt_sA (xt_sA S i g) i h = xt_sA S i h := by
  unfold xt_sA
  congr 2
  funext j
  by_cases q : j = i <;> simp [q]
theorem xt_sA_self {S : xt_St} {i : Nat} : xt_sA S i (S.2.1 i) = S := by
  obtain ⟨a, b, c⟩ := S
  unfold xt_sA
  congr 2
  funext j
  by_cases q : j = i <;> simp [q]
theorem xt_sA_cm {S : xt_St} {i j : Nat} {g h : Nat → Int32} (hn : i ≠ j) : xt_sA (xt_sA S i g) j h = xt_sA (xt_sA S j h) i g := by
  unfold xt_sA
  congr 2
  funext q
  by_cases a : q = i
  · by_cases b : q = j
    · exact absurd (a.symm.trans b) hn
    · simp [a]; intro z; exact absurd z hn
  · by_cases b : q = j
    · simp [b]; intro z; exact absurd z.symm hn
    · simp [a, b]
/-- fewer locals are known -/
def xt_le : List (Option Value) → List (Option Value) → Prop
  | [], [] => True
  | none :: a, _ :: b => xt_le a b
  | some v :: a, some w :: b => v = w ∧ xt_le a b
  | _, _ => False
theorem xt_le_of : ∀ {lo' lo : List (Option Value)}, xt_le lo' lo → lo'.length = lo.length ∧ ∀ (i : Nat) (v : Value), lo'[i]? = some (some v) → lo[i]? = some (some v) := by
  intro lo'
  induction lo' with
  | nil =>
    intro lo h
    cases lo with
    | nil => exact ⟨rfl, fun i v h => by simp at h⟩
    | cons b l => exact absurd h (by simp [xt_le])
  | cons a t ih =>
    intro lo h
    cases lo with
    | nil => cases a <;> exact absurd h (by simp [xt_le])
    | cons b l =>
      cases a with
      | none =>
        have h9 : xt_le t l := by cases b <;> exact h
        obtain ⟨e1, e2⟩ := ih h9
        refine ⟨by simp [e1], fun i v hi => ?_⟩
        cases i with
        | zero => simp at hi
        | succ j => simpa using e2 j v (by simpa using hi)
      | some w =>
        cases b with
        | none => exact absurd h (by simp [xt_le])
        | some u =>
          obtain ⟨rfl, h9⟩ := h
          obtain ⟨e1, e2⟩ := ih h9
          refine ⟨by simp [e1], fun i v hi => ?_⟩
          cases i with
          | zero => simpa using hi
          | succ j => simpa using e2 j v (by simpa using hi)
theorem xt_fg (h : xt_le lo' lo) (kk : xt_X E cx Z k n pc lo' st S) : xt_X E cx Z k n pc lo st S := fun H locs ls h1 h2 h3 => kk H locs ls h1 h2 ⟨h3.1.trans (xt_le_of h).1.symm, h3.2.1, fun i v hv => h3.2.2 i v ((xt_le_of h).2 i v hv)⟩
theorem xt_vI {x y : Int32} (h : x = y) : some (Value.int x) = some (Value.int y) := by rw [h]
theorem xt_all {av : List Value} (h : av.all (fun v => v.category == 1) = true) : ∀ v ∈ av, v.category = 1 := fun v hv => by simpa using List.all_eq_true.mp h v hv
/-- a boolean answer -/
noncomputable def xt_b (P : Prop) : Int32 := @ite Int32 P (Classical.propDecidable P) 1 0
theorem xt_b1 {P : Prop} (h : P) : xt_b P = nI 1 := by unfold xt_b; rw [if_pos h]; rfl
theorem xt_b0 {P : Prop} (h : ¬ P) : xt_b P = nI 0 := by unfold xt_b; rw [if_neg h]; rfl
theorem xt_bc {P Q : Prop} (h : P ↔ Q) : xt_b P = xt_b Q := by rw [propext h]
theorem xt_bz (P : Prop) : narrow .boolean (.int (xt_b P)) = .int (xt_b P) := by
  by_cases h : P
  · rw [xt_b1 h]; decide
  · rw [xt_b0 h]; decide
theorem xt_q1 {P : Prop} {S : xt_St} (h : P) : xt_Eq (some (.int (xt_b P))) S (some (.int (nI 1))) S := ⟨by rw [xt_b1 h], rfl⟩
theorem xt_q0 {P : Prop} {S : xt_St} (h : ¬ P) : xt_Eq (some (.int (xt_b P))) S (some (.int (nI 0))) S := ⟨by rw [xt_b0 h], rfl⟩
theorem xt_qI {S : xt_St} {x y : Int32} (h : x = y) : xt_Eq (some (.int y)) S (some (.int x)) S := ⟨by rw [h], rfl⟩
theorem xt_if_eqB (C : xt_Ok own cc nL ret rm E cx) {P : Prop} {off : Int} {tgt : Nat} (d : decode cc pc = .ok (.ifCond .eq off, 3)) (ht : (pc : Int) + off = (tgt : Int)) (kt : ¬ P → xt_X E cx Z k n tgt lo st S) (kf : P → xt_X E cx Z k n (pc + 3) lo st S) : xt_X E cx Z k n pc lo (.int (xt_b P) :: st) S := xt_if_eq C d ht (fun h => kt (fun z => absurd ((xt_b1 z).symm.trans h) (by decide))) (fun h => kf (Classical.byContradiction fun z => h ((xt_b0 z).trans rfl)))
theorem xt_if_neB (C : xt_Ok own cc nL ret rm E cx) {P : Prop} {off : Int} {tgt : Nat} (d : decode cc pc = .ok (.ifCond .ne off, 3)) (ht : (pc : Int) + off = (tgt : Int)) (kt : P → xt_X E cx Z k n tgt lo st S) (kf : ¬ P → xt_X E cx Z k n (pc + 3) lo st S) : xt_X E cx Z k n pc lo (.int (xt_b P) :: st) S := xt_if_ne C d ht (fun h => kt (Classical.byContradiction fun z => h ((xt_b0 z).trans rfl))) (fun h => kf (fun z => absurd ((xt_b1 z).symm.trans h) (by decide)))
end XT7
