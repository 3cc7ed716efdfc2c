/-! the constructors, over worlds that are lists -/
section XN0
def xt_K1 (E : xt_Ev) (U : State) : Prop :=
  va_K E.2.2.1 vwCl (xt_ty E) U ∧ (∀ w ∈ xt_nw, va_Nw w U) ∧
  vx_Zq Bundle.tN "UNASSIGNED_STACK" Bundle.steD (xt_Af E) U U.heap ∧ vx_Zq Bundle.tN "SUPPRESSED_SENTINEL" Bundle.listD (xt_Af E) U U.heap ∧
  vk_S 31 xt_tl xt_tb E.2.2.2.2.1 E.2.2.2.2.2 (xt_Af E) U U.heap ∧ (∀ i q, xt_tx[i]? = some q → vk_R q.1 q.2.1 q.2.2 (E.2.2.2.2.1 i) U) ∧
  va_Z "java/lang/String" "COMPACT_STRINGS" "Z" (.int 1) (xt_Af E) U U.heap ∧ va_Zq "jdk/internal/util/Preconditions" "SIOOBE_FORMATTER" "Ljava/util/function/BiFunction;" (xt_Af E) U U.heap ∧ (∀ q ∈ xt_nc, va_Nc q.1 q.2 U)
def xt_K0 (E : xt_Ev) (U : State) : Prop := xt_K1 E U ∧ va_AO "WaveletTiler$Picture" U
theorem xt_Kn_K0 {E : xt_Ev} {U : State} (h1 : xt_Eo E) (h2 : xt_K0 E U) : xt_Kn E U := ⟨h1, h2.1⟩
theorem xt_K0_warm {E : xt_Ev} {s U : State} {H : Heap} {locs : List Loc} (hW : s.WarmedH U.vm) (hS : va_S (xt_Af E) s.heap H locs) (hU : U.heap = H) (h : xt_K0 E s) : xt_K0 E U := by
  obtain ⟨⟨h2, h3, h4, h5, h6, h7, h8, h9, h10⟩, h11⟩ := h
  subst hU
  exact ⟨⟨va_K.moved hW.alike h2, fun w hw => xt_nw_warm hW (List.mem_filter.mp hw).2 (h3 w hw), vx_Zq.kept (vx_Zq.moved hW.alike h4) hS.2.1, vx_Zq.kept (vx_Zq.moved hW.alike h5) hS.2.1, vk_S.kept (vk_S.moved hW.alike h6) hS.2.1, fun i q hq => vk_R.warm hW (h7 i q hq), va_Z.kept (va_Z.moved hW.alike h8) hS.2.1, va_Zq.kept (va_Zq.moved hW.alike h9) hS.2.1, fun q hq => va_Nc.moved hW.alike (h10 q hq)⟩, va_AO.moved hW.alike h11⟩
theorem xt_K0_calling {E : xt_Ev} {U : State} {g : JFrame} {mk : MethodId} {a : Array Value} (h : xt_K0 E U) : xt_K0 E (U.calling g mk a) := by
  obtain ⟨⟨h2, h3, h4, h5, h6, h7, h8, h9, h10⟩, h11⟩ := h
  exact ⟨⟨va_K.moved (u := U) (U := U.calling g mk a) (Vm.Alike.refl U.vm) h2, fun w hw => va_Nw.same (u := U) (xt_nw_tab (List.mem_filter.mp hw).2) rfl (h3 w hw), vx_Zq.moved (u := U) (Vm.Alike.refl U.vm) h4, vx_Zq.moved (u := U) (Vm.Alike.refl U.vm) h5, vk_S.moved (u := U) (Vm.Alike.refl U.vm) h6, fun i q hq => vk_R.same (u := U) rfl (h7 i q hq), va_Z.moved (u := U) (Vm.Alike.refl U.vm) h8, va_Zq.moved (u := U) (Vm.Alike.refl U.vm) h9, fun q hq => va_Nc.moved (u := U) (Vm.Alike.refl U.vm) (h10 q hq)⟩, va_AO.moved (u := U) (Vm.Alike.refl U.vm) h11⟩
def xt_Ok0 (own : String) (cc : ByteArray) (nL : Nat) (ret : Option FieldType) (rm : Room) (E : xt_Ev) (cx : xt_Cx) : Prop :=
  cx.1.tables.exec = Jvm.exec ∧ cx.2.2.2.2.2.2.2.2.2.code = cc ∧ cx.2.2.2.2.2.2.2.2.2.maxLocals = nL ∧ cx.2.2.2.2.1.vm.findClass own = some cx.2.2.2.2.2.1.cls ∧ (∀ w ∈ xt_T, w.before cx.2.2.2.2.2.2.1 cx.2.2.2.2.1 = true) ∧
  (xt_K0 E cx.2.2.2.2.1 ∧ E.2.1 ≤ cx.2.2.2.2.1.heap.size) ∧ cx.2.2.2.1 = rm ∧ cx.2.2.2.2.2.2.2.2.1.locks = false ∧ cx.2.2.2.2.2.2.2.2.1.sig.returnType = ret
def xt_Yw (E : xt_Ev) (cx : xt_Cx) (Z : State → Prop) (k n pc : Nat) (lo : List (Option Value)) (st : List Value) (w : va_W) : Prop :=
  ∀ (H : Heap) (locs : List Loc) (ls : Array Slot), va_P E.2.2.1 vwCl w H → va_D (xt_Af E) w → va_S (xt_Af E) cx.2.2.2.2.1.heap H locs → xt_lh ls lo → xt_W cx H locs k n Z (F0 cx.2.2.2.2.2.1 pc ls st)
def xt_Qw (E : xt_Ev) (Q : Option Value → va_W → Prop) : Array Value → State → Outcome → State → Prop := fun _ st o t => (∃ v w, o = .returned v ∧ Q v w ∧ va_P E.2.2.1 vwCl w t.heap ∧ va_D (xt_Af E) w) ∧ va_F (xt_Af E) st t
def xt_ZW (E : xt_Ev) (cx : xt_Cx) (k n : Nat) (Q : Option Value → va_W → Prop) : State → Prop := MQ cx.2.2.2.2.2.2.2.1 (xt_Qw E Q) cx.2.2.2.2.2.2.1 cx.2.2.2.2.1 k n (xt_Af E)
def xt_Cw (E : xt_Ev) (l : Launch) (y : MethodName) (cc : ByteArray) (nL : Nat) (ret : Option FieldType) (fr lw k n : Nat) (av : List Value) (w : va_W) (Q : Option Value → va_W → Prop) : Prop :=
  Met l y (.code y cc nL ret :: xt_T) ({ frames := fr, cells := k, slots := n, locals := lw }) (va_Pc av (fun U => va_P E.2.2.1 vwCl w U.heap ∧ va_D (xt_Af E) w ∧ xt_K0 E U ∧ E.2.1 ≤ U.heap.size)) (xt_Qw E Q) k n (xt_Af E)
theorem xt_blindW {E : xt_Ev} {av : List Value} {w : va_W} : FrameBlind (va_Pc av (fun U => va_P E.2.2.1 vwCl w U.heap ∧ va_D (xt_Af E) w ∧ xt_K0 E U ∧ E.2.1 ≤ U.heap.size)) := fun _ _ _ _ q => ⟨q.1, q.2.1, q.2.2.1, xt_K0_calling q.2.2.2.1, q.2.2.2.2⟩
theorem xt_bodyW {E : xt_Ev} {l : Launch} {y : MethodName} {cc : ByteArray} {nL fr lw k n : Nat} {ret : Option FieldType} {av : List Value} {w : va_W} {Q : Option Value → va_W → Prop} (hy : plainName y.cls = true) (h1 : ∀ v ∈ av, v.category = 1) (h2 : av.length ≤ nL)
    (h : ∀ cx : xt_Cx, xt_Ok0 y.cls cc nL ret ({ frames := fr, cells := k, slots := n, locals := lw }) E cx → cx.2.1 = l → cx.2.2.2.2.2.2.2.2.1.name = y.name → xt_Yw E cx (xt_ZW E cx k n Q) 0 0 0 (av.map some ++ List.replicate (nL - av.length) none) [] w) : xt_Cw E l y cc nL ret fr lw k n av w Q := by
  refine Met.ofW (cc := cc) (maxL := nL) (ret := ret) hy rfl ?_
  intro p e s m args below meth c s₁ B hml hv
  obtain ⟨rfl, hP, hD, hK, hz⟩ := hv
  have hts := atoms_spec (ws := Cond.code y cc nL ret :: xt_T) B.pre
  obtain ⟨ls, he, hl⟩ := xt_entry (m := m) (nL := nL) h1 h2
  rw [he]
  exact h (p, l, e, _, s, m, av.toArray, below, meth, c) ⟨B.exec, B.bytes, hml, findClass_of_methodNamed B.named, fun w hw => hts w (List.mem_cons_of_mem _ hw), ⟨hK, hz⟩, rfl, B.notSynchronized, B.returns⟩ rfl (name_of_methodNamed B.named B.method).1 s.heap [] ls hP hD va_S.rf hl
end XN0
section XN1
theorem xt_wget {w0 es : va_W} {x : Nat × va_E} : (w0 ++ x :: es)[w0.length]? = some x := by simp
theorem xt_wset {w0 es : va_W} {x y : Nat × va_E} : (w0 ++ x :: es).set w0.length y = w0 ++ y :: es := by simp
theorem xt_wge {w0 es : va_W} {x y : Nat × va_E} {i : Nat} (h : es[i]? = some y) : (w0 ++ x :: es)[w0.length + 1 + i]? = some y := by
  rw [List.getElem?_append_right (by omega)]
  have e : w0.length + 1 + i - w0.length = i + 1 := by omega
  rw [e]
  exact h
theorem xt_wse {w0 es : va_W} {x y : Nat × va_E} {i : Nat} : (w0 ++ x :: es).set (w0.length + 1 + i) y = w0 ++ x :: es.set i y := by
  rw [List.set_append_right _ _ (by omega)]
  have e : w0.length + 1 + i - w0.length = i + 1 := by omega
  rw [e]
  rfl
theorem xt_RA_u {U : State} {a b : ClassId} {ty : FieldType} (h1 : va_RA U a ty) (h2 : va_RA U b ty) : a = b := by
  cases ty with
  | object C =>
    obtain ⟨_, _, _, _, _, e1⟩ := h1
    obtain ⟨_, _, _, _, _, e2⟩ := h2
    exact Option.some.inj (e1.symm.trans e2)
  | _ => exact Option.some.inj (Eq.trans (Eq.symm h1) h2)
variable {E : xt_Ev} {cx : xt_Cx} {Z : State → Prop} {k n pc nL : Nat} {lo lo' : List (Option Value)} {st : List Value} {w : va_W} {own : String} {cc : ByteArray} {ret : Option FieldType} {rm : Room}
theorem yv_iconst (C : xt_Ok0 own cc nL ret rm E cx) {q : Int} {v : Int32} (d : decode cc pc = .ok (.iconst q, 1)) (hv : Int32.ofInt q = v) (kk : xt_Yw E cx Z k n (pc + 1) lo (.int v :: st) w) : xt_Yw E cx Z k n pc lo st w := fun H locs ls h1 hD h2 h3 => lv_iconst C.1 C.2.1 d hv (kk H locs ls h1 hD h2 h3)
theorem yv_bipush (C : xt_Ok0 own cc nL ret rm E cx) {q : Int} {v : Int32} (d : decode cc pc = .ok (.bipush q, 2)) (hv : (Int8.ofInt q).toInt32 = v) (kk : xt_Yw E cx Z k n (pc + 2) lo (.int v :: st) w) : xt_Yw E cx Z k n pc lo st w := fun H locs ls h1 hD h2 h3 => lv_bipush C.1 C.2.1 d hv (kk H locs ls h1 hD h2 h3)
theorem yv_sipush (C : xt_Ok0 own cc nL ret rm E cx) {q : Int} {v : Int32} (d : decode cc pc = .ok (.sipush q, 3)) (hv : (Int16.ofInt q).toInt32 = v) (kk : xt_Yw E cx Z k n (pc + 3) lo (.int v :: st) w) : xt_Yw E cx Z k n pc lo st w := fun H locs ls h1 hD h2 h3 => lv_sipush C.1 C.2.1 d hv (kk H locs ls h1 hD h2 h3)
theorem yv_iload_n (C : xt_Ok0 own cc nL ret rm E cx) {q : Fin 4} {x : Int32} (d : decode cc pc = .ok (.iload_n q, 1)) (hl : lo[(q : Nat)]? = some (some (.int x))) (kk : xt_Yw E cx Z k n (pc + 1) lo (.int x :: st) w) : xt_Yw E cx Z k n pc lo st w := fun H locs ls h1 hD h2 h3 => lv_iload_n C.1 C.2.1 d rfl (h3.2.2 _ _ hl) (kk H locs ls h1 hD h2 h3)
theorem yv_aload_n (C : xt_Ok0 own cc nL ret rm E cx) {q : Fin 4} {x : Nat} (d : decode cc pc = .ok (.aload_n q, 1)) (hl : lo[(q : Nat)]? = some (some (.ref x))) (kk : xt_Yw E cx Z k n (pc + 1) lo (.ref x :: st) w) : xt_Yw E cx Z k n pc lo st w := fun H locs ls h1 hD h2 h3 => lv_aload_n C.1 C.2.1 d rfl (h3.2.2 _ _ hl) (kk H locs ls h1 hD h2 h3)
theorem yv_istore_n (C : xt_Ok0 own cc nL ret rm E cx) {q : Fin 4} {x : Int32} (d : decode cc pc = .ok (.istore_n q, 1)) (hi : (q : Nat) < lo.length) (hc : xt_cat2 lo q = false) (hl : lo.set q (some (.int x)) = lo') (kk : xt_Yw E cx Z k n (pc + 1) lo' st w) : xt_Yw E cx Z k n pc lo (.int x :: st) w := fun H locs ls h1 hD h2 h3 => lv_istore_n C.1 C.2.1 d rfl (xt_lh_has h3) hi rfl (fun ls' h9 => kk H locs ls' h1 hD h2 (hl ▸ xt_st1 h9 hc))
theorem yv_astore_n (C : xt_Ok0 own cc nL ret rm E cx) {q : Fin 4} {x : Nat} (d : decode cc pc = .ok (.astore_n q, 1)) (hi : (q : Nat) < lo.length) (hc : xt_cat2 lo q = false) (hl : lo.set q (some (.ref x)) = lo') (kk : xt_Yw E cx Z k n (pc + 1) lo' st w) : xt_Yw E cx Z k n pc lo (.ref x :: st) w := fun H locs ls h1 hD h2 h3 => lv_astore_n C.1 C.2.1 d rfl (xt_lh_has h3) hi rfl (fun ls' h9 => kk H locs ls' h1 hD h2 (hl ▸ xt_st1 h9 hc))
theorem yv_astore (C : xt_Ok0 own cc nL ret rm E cx) {q : Nat} {x : Nat} (d : decode cc pc = .ok (.astore q, 2)) (hi : q < lo.length) (hc : xt_cat2 lo q = false) (hl : lo.set q (some (.ref x)) = lo') (kk : xt_Yw E cx Z k n (pc + 2) lo' st w) : xt_Yw E cx Z k n pc lo (.ref x :: st) w := fun H locs ls h1 hD h2 h3 => lv_astore C.1 C.2.1 d (xt_lh_has h3) hi rfl (fun ls' h9 => kk H locs ls' h1 hD h2 (hl ▸ xt_st1 h9 hc))
theorem yv_iadd (C : xt_Ok0 own cc nL ret rm E cx) {x y v : Int32} (d : decode cc pc = .ok (.iadd, 1)) (hv : x + y = v) (kk : xt_Yw E cx Z k n (pc + 1) lo (.int v :: st) w) : xt_Yw E cx Z k n pc lo (.int y :: .int x :: st) w := fun H locs ls h1 hD h2 h3 => by
  subst hv
  exact lv_iadd C.1 C.2.1 d (kk H locs ls h1 hD h2 h3)
theorem yv_iinc (C : xt_Ok0 own cc nL ret rm E cx) {q : Nat} {z : Int} {x v : Int32} (d : decode cc pc = .ok (.iinc q z, 3)) (hx : lo[q]? = some (some (.int x))) (hv : x + Int32.ofInt z = v) (hc : xt_cat2 lo q = false) (hl : lo.set q (some (.int v)) = lo') (kk : xt_Yw E cx Z k n (pc + 3) lo' st w) : xt_Yw E cx Z k n pc lo st w := by
  intro H locs ls h1 hD h2 h3
  obtain ⟨j, hj⟩ := List.getElem?_of_mem (xt_pr_of.mpr hx)
  exact lv_iinc C.1 C.2.1 d (xt_lh_has h3) hj hv (List.getElem?_eq_some_iff.mp hx).1 rfl (fun ls' h9 => kk H locs ls' h1 hD h2 (hl ▸ xt_st1 h9 hc))
theorem yv_dup (C : xt_Ok0 own cc nL ret rm E cx) {va : Value} (d : decode cc pc = .ok (.dup, 1)) (hva : va.category = 1) (kk : xt_Yw E cx Z k n (pc + 1) lo (va :: va :: st) w) : xt_Yw E cx Z k n pc lo (va :: st) w := fun H locs ls h1 hD h2 h3 => lv_dup C.1 C.2.1 d hva (kk H locs ls h1 hD h2 h3)
theorem yv_goto (C : xt_Ok0 own cc nL ret rm E cx) {off : Int} {tgt : Nat} (d : decode cc pc = .ok (.goto off, 3)) (ht : (pc : Int) + off = (tgt : Int)) (kk : xt_Yw E cx Z k n tgt lo st w) : xt_Yw E cx Z k n pc lo st w := fun H locs ls h1 hD h2 h3 => lv_goto C.1 C.2.1 d ht (kk H locs ls h1 hD h2 h3)
theorem yv_icmp_ge (C : xt_Ok0 own cc nL ret rm E cx) {x y : Int32} {off : Int} {tgt : Nat} (d : decode cc pc = .ok (.if_icmp .ge off, 3)) (ht : (pc : Int) + off = (tgt : Int)) (kt : y ≤ x → xt_Yw E cx Z k n tgt lo st w) (kf : ¬ (y ≤ x) → xt_Yw E cx Z k n (pc + 3) lo st w) : xt_Yw E cx Z k n pc lo (.int y :: .int x :: st) w := fun H locs ls h1 hD h2 h3 => lv_icmp_ge C.1 C.2.1 d ht (fun h9 => kt h9 H locs ls h1 hD h2 h3) (fun h9 => kf h9 H locs ls h1 hD h2 h3)
theorem yv_vret {Q : Option Value → va_W → Prop} {k9 n9 : Nat} (C : xt_Ok0 own cc nL none rm E cx) (d : decode cc pc = .ok (.return_, 1)) (hk : k ≤ k9 ∧ n ≤ n9) (hq : Q none w) : xt_Yw E cx (xt_ZW E cx k9 n9 Q) k n pc lo [] w := fun H locs ls h1 hD h2 h3 => W.widen hk.1 hk.2 (W.vret C.1 C.2.1 C.2.2.2.2.2.2.2.2 (fun t ht hW => ⟨⟨none, w, rfl, hq, ht.symm ▸ h1, hD⟩, h2.F ht⟩) h2.2.2 d (hlocks := C.2.2.2.2.2.2.2.1))
theorem yv_obj (C : xt_Ok0 own cc nL ret rm E cx) {index a : Nat} (hlk : Cond.methodLink own index objectInit ∈ xt_T) (hi : Cond.instanceMethod objectInit ∈ xt_T) (hcd : Cond.code objectInit ⟨#[0xb1]⟩ 1 none ∈ xt_T) (hlo : lo.length = nL) (hr : 1 ≤ rm.frames ∧ 2 * 0 + (st.map fun v => v.category).sum + 12 ≤ rm.locals) (d : decode cc pc = .ok (.invokespecial index, 3)) (kk : xt_Yw E cx Z k n (pc + 3) lo st w) : xt_Yw E cx Z k n pc lo (.ref a :: st) w := by
  intro H locs ls h1 hD h2 h3
  have hk9 := kk H locs ls h1 hD h2 h3
  obtain ⟨hx, hb, hml, hown, hts, hK, hR, -⟩ := C
  subst hR
  refine W.objInit hx hb hown (hts _ hlk) (hts _ hi) (hts _ hcd) rfl ((h3.1.trans hlo).trans hml.symm) rfl d hr.1 hr.2 ?_
  exact hk9
theorem yv_new (C : xt_Ok0 own cc nL ret rm E cx) {Cn : String} {T : u_T} {N ci index : Nat} (hu : ∀ w ∈ u_ws Cn T N, w ∈ xt_T) (ty : Nat → FieldType) (hty : ∀ k, k < N → parseFieldDescriptor (T k).2.2.1 = some (ty k)) (hcl : Cond.classLink own index Cn ∈ xt_T) (hin : Cond.instantiable Cn N ∈ xt_T) (hini : Cond.initialized Cn ∈ xt_T) (hc : vwCl[ci]? = some (Cn, T, N)) {fs : List Value} (hfs : ∀ j, j < N → defaultValue (ty j) = vp_V fs j)
    (hr : k + 1 ≤ rm.cells ∧ n + N ≤ rm.slots) (d : decode cc pc = .ok (.new index, 3)) (kk : ∀ q : Nat, xt_Yw E cx Z (k + 1) (n + N) (pc + 3) lo (.ref q :: st) (w ++ [(q, .inr (ci, fs))])) : xt_Yw E cx Z k n pc lo st w := by
  intro H locs ls h1 hD h2 h3
  obtain ⟨hx, hb, hml, hown, hts, hK, hR, -⟩ := C
  subst hR
  exact va_new hx hb hts hu ty hty hown (hts _ hcl) (hts _ hin) (hts _ hini) hK.1.1.1 h1 hD h2 (fun q h => Nat.le_trans hK.2 h) hc hfs hr.1 hr.2 d (fun q H1 p1 d1 s1 => kk q H1 locs ls p1 d1 s1 h3)
theorem yv_newa (C : xt_Ok0 own cc nL ret rm E cx) {atype : ArrayType} {ty : FieldType} {i N' : Nat} {a0 : vp_A} {x : Int32} (harr : Cond.arrayClass (newarray.typeOf atype) ∈ xt_T) (hty : newarray.typeOf atype = ty) (hi : (xt_ty E)[i]? = some (E.2.2.2.1 i, ty)) (ha : ∀ cA : ClassId, vp_cell cA a0 = arrV cA N' (fun _ => defaultValue ty)) (hn : ¬ x < 0) (hN : x.toNatClampNeg = N') (hbytes : N' * componentBytes ty ≤ 536870912)
    (hr : k + 1 ≤ rm.cells ∧ n + N' ≤ rm.slots) (d : decode cc pc = .ok (.newarray atype, 2)) (kk : ∀ q : Nat, xt_Yw E cx Z (k + 1) (n + N') (pc + 2) lo (.ref q :: st) (w ++ [(q, .inl (E.2.2.2.1 i, a0))])) : xt_Yw E cx Z k n pc lo (.int x :: st) w := by
  intro H locs ls h1 hD h2 h3
  obtain ⟨hx, hb, hml, hown, hts, hK, hR, -⟩ := C
  subst hR
  refine va_newa hx hb (hts _ harr) hty hK.1.1.1 h1 hD h2 (fun q h => Nat.le_trans hK.2 h) ha hn hN hbytes hr.1 hr.2 d (fun q cA H1 k1 p1 d1 s1 => ?_)
  have e1 := (k1.2 (xt_ty E).length (cA, ty) (by simp)).2
  have e2 := (hK.1.1.1.2 i _ hi).2
  have e3 : cA = E.2.2.2.1 i := xt_RA_u e1 e2
  subst e3
  exact kk q H1 locs ls p1 d1 s1 h3
theorem yv_newq (C : xt_Ok0 own cc nL ret rm E cx) {Cn : String} {i index N' : Nat} {x : Int32} (hcl : Cond.classLink own index Cn ∈ xt_T) (hov : Cn = "WaveletTiler$Picture") (hi : (xt_ty E)[i]? = some (E.2.2.2.1 i, .object Cn)) (hn : ¬ x < 0) (hN : x.toNatClampNeg = N') (hbytes : N' * 4 ≤ 536870912)
    (hr : k + 1 ≤ rm.cells ∧ n + N' ≤ rm.slots) (d : decode cc pc = .ok (.anewarray index, 3)) (kk : ∀ q : Nat, xt_Yw E cx Z (k + 1) (n + N') (pc + 3) lo (.ref q :: st) (w ++ [(q, .inl (E.2.2.2.1 i, N', .inr (.inr (.inr (.inr (fun _ => none))))))])) : xt_Yw E cx Z k n pc lo (.int x :: st) w := by
  intro H locs ls h1 hD h2 h3
  obtain ⟨hx, hb, hml, hown, hts, hK, hR, -⟩ := C
  subst hR
  refine va_newq hx hb hown (hts _ hcl) (by rw [hov]; exact hK.1.2) hK.1.1.1 h1 hD h2 (fun q h => Nat.le_trans hK.2 h) hn hN hbytes hr.1 hr.2 d (fun q cA H1 k1 p1 d1 s1 => ?_)
  have e1 := (k1.2 (xt_ty E).length (cA, .object Cn) (by simp)).2
  have e2 := (hK.1.1.1.2 i _ hi).2
  have e3 : cA = E.2.2.2.1 i := xt_RA_u e1 e2
  subst e3
  exact kk q H1 locs ls p1 d1 s1 h3
theorem yo_put (C : xt_Ok0 own cc nL ret rm E cx) {w0 es : va_W} {a ci f N index : Nat} {Cn : String} {T : u_T} {fs fs' : List Value} {v : Value} (hu : ∀ w ∈ u_ws Cn T N, w ∈ xt_T) (hcl : vwCl[ci]? = some (Cn, T, N)) (hf : f < N) (ty0 : Nat → FieldType) (hty : ∀ j, j < N → parseFieldDescriptor (T j).2.2.1 = some (ty0 j)) (hnm : ∀ a, a < N → ∀ b, b < N → a ≠ b → (T a).2.1 ≠ (T b).2.1) (hlk : Cond.fieldLink own index (T f).1 (T f).2.1 (T f).2.2.1 ∈ xt_T) (hfin : (T f).2.2.2 = false) {ty : FieldType} (hd : parseFieldDescriptor (T f).2.2.1 = some ty) (hn : narrow ty v = v) (hft : fits ty v = true) (hl : f < fs.length) (he : fs.set f v = fs') (d : decode cc pc = .ok (.putfield index, 3))
    (kk : xt_Yw E cx Z k n (pc + 3) lo st (w0 ++ (a, .inr (ci, fs')) :: es)) : xt_Yw E cx Z k n pc lo (v :: .ref a :: st) (w0 ++ (a, .inr (ci, fs)) :: es) := by
  intro H locs ls h1 hD h2 h3
  subst he
  exact va_put C.1 C.2.1 C.2.2.2.2.1 hu ty0 hty hnm C.2.2.2.1 C.2.2.2.2.2.1.1.1.1 h1 hD h2 w0.length xt_wget hcl f hf (C.2.2.2.2.1 _ hlk) (fun _ h9 => h9) hfin hd hn hft hl d (fun H1 locs1 g1 g2 g3 => kk H1 locs1 ls (xt_wset ▸ g1) (xt_wset ▸ g2) g3 h3)
theorem yo_putF (C : xt_Ok0 own cc nL ret rm E cx) (hin : cx.2.2.2.2.2.2.2.2.1.name = "<init>") {w0 es : va_W} {a ci f N index : Nat} {Cn : String} {T : u_T} {fs fs' : List Value} {v : Value} (hu : ∀ w ∈ u_ws Cn T N, w ∈ xt_T) (hcl : vwCl[ci]? = some (Cn, T, N)) (hf : f < N) (ty0 : Nat → FieldType) (hty : ∀ j, j < N → parseFieldDescriptor (T j).2.2.1 = some (ty0 j)) (hnm : ∀ a, a < N → ∀ b, b < N → a ≠ b → (T a).2.1 ≠ (T b).2.1) (hlk : Cond.fieldLink own index (T f).1 (T f).2.1 (T f).2.2.1 ∈ xt_T) (hfin : (T f).2.2.2 = true) (hdc : (T f).1 = own) {ty : FieldType} (hd : parseFieldDescriptor (T f).2.2.1 = some ty) (hn : narrow ty v = v) (hft : fits ty v = true) (hl : f < fs.length) (he : fs.set f v = fs') (d : decode cc pc = .ok (.putfield index, 3))
    (kk : xt_Yw E cx Z k n (pc + 3) lo st (w0 ++ (a, .inr (ci, fs')) :: es)) : xt_Yw E cx Z k n pc lo (v :: .ref a :: st) (w0 ++ (a, .inr (ci, fs)) :: es) := by
  intro H locs ls h1 hD h2 h3
  subst he
  exact va_putF C.1 C.2.1 C.2.2.2.2.1 hu ty0 hty hnm C.2.2.2.1 C.2.2.2.2.2.1.1.1.1 h1 hD h2 w0.length xt_wget hcl f hf (C.2.2.2.2.1 _ hlk) (fun _ h9 => h9) hfin hin hdc hd hn hft hl d (fun H1 locs1 g1 g2 g3 => kk H1 locs1 ls (xt_wset ▸ g1) (xt_wset ▸ g2) g3 h3)
theorem yv_get (C : xt_Ok0 own cc nL ret rm E cx) {a ci f N index : Nat} {Cn : String} {T : u_T} {fs : List Value} {v : Value} (hu : ∀ w ∈ u_ws Cn T N, w ∈ xt_T) (hcl : vwCl[ci]? = some (Cn, T, N)) (i : Nat) (hc : w[i]? = some (a, .inr (ci, fs))) (hf : f < N) (hlk : Cond.fieldLink own index (T f).1 (T f).2.1 (T f).2.2.1 ∈ xt_T) (hv : fs[f]? = some v) (d : decode cc pc = .ok (.getfield index, 3)) (kk : xt_Yw E cx Z k n (pc + 3) lo (v :: st) w) : xt_Yw E cx Z k n pc lo (.ref a :: st) w := by
  intro H locs ls h1 hD h2 h3
  exact va_get C.1 C.2.1 C.2.2.2.2.1 hu C.2.2.2.1 C.2.2.2.2.2.1.1.1.1 h1 i hc hcl f hf (C.2.2.2.2.1 _ hlk) (fun _ h9 => h9) hv d (kk H locs ls h1 hD h2 h3)
theorem yv_alen (C : xt_Ok0 own cc nL ret rm E cx) {a t0 : Nat} {cA : ClassId} {x : vp_A} {ty : FieldType} {v : Int32} (i : Nat) (ha : w[i]? = some (a, .inl (cA, x))) (ht : (xt_ty E)[t0]? = some (cA, ty)) (hv : Int32.ofNat x.1 = v) (d : decode cc pc = .ok (.arraylength, 1)) (kk : xt_Yw E cx Z k n (pc + 1) lo (.int v :: st) w) : xt_Yw E cx Z k n pc lo (.ref a :: st) w := by
  intro H locs ls h1 hD h2 h3
  exact va_alen C.1 C.2.1 C.2.2.2.2.2.1.1.1.1 h1 i t0 ha ht hv d (kk H locs ls h1 hD h2 h3)
theorem yv_iast (C : xt_Ok0 own cc nL ret rm E cx) {w' : va_W} {a N : Nat} {f : Nat → Int32} {j x : Int32} (i : Nat) (ha : w[i]? = some (a, .inl (E.2.2.2.1 0, N, .inl f))) (hin : vp_in j N) (hw : w.set i (a, .inl (E.2.2.2.1 0, N, .inl (upd f j.toNatClampNeg x))) = w') (d : decode cc pc = .ok (.iastore, 1)) (kk : xt_Yw E cx Z k n (pc + 1) lo st w') : xt_Yw E cx Z k n pc lo (.int x :: .int j :: .ref a :: st) w := by
  intro H locs ls h1 hD h2 h3
  subst hw
  exact va_iast C.1 C.2.1 C.2.2.2.2.2.1.1.1.1 h1 hD h2 i 0 ha rfl hin d (fun H1 locs1 g1 g2 g3 => kk H1 locs1 ls g1 g2 g3 h3)
theorem yv_aast (C : xt_Ok0 own cc nL ret rm E cx) {w' : va_W} {a v N ci : Nat} {vs : List Value} {T : u_T} {M : Nat} {f : Nat → Option Nat} {j : Int32} (i i2 : Nat) (ha : w[i]? = some (a, .inl (E.2.2.2.1 5, N, .inr (.inr (.inr (.inr f)))))) (hv : w[i2]? = some (v, .inr (ci, vs))) (hc : vwCl[ci]? = some ("WaveletTiler$Picture", T, M)) (hin : vp_in j N) (hw : w.set i (a, .inl (E.2.2.2.1 5, N, .inr (.inr (.inr (.inr (va_up f j.toNatClampNeg (some v))))))) = w') (d : decode cc pc = .ok (.aastore, 1)) (kk : xt_Yw E cx Z k n (pc + 1) lo st w') : xt_Yw E cx Z k n pc lo (.ref v :: .int j :: .ref a :: st) w := by
  intro H locs ls h1 hD h2 h3
  subst hw
  exact va_astq C.1 C.2.1 C.2.2.2.2.2.1.1.1.1 h1 hD h2 i 5 i2 ci (r := ("WaveletTiler$Picture", T, M)) ha rfl hv hc hin d (fun H1 locs1 g1 g2 g3 => kk H1 locs1 ls g1 g2 g3 h3)
/-- a constructor's call, of the object made last -/
theorem yv_ctor (C : xt_Ok0 own cc nL ret rm E cx) {y : MethodName} {cy : ByteArray} {ny fr lw k1 n1 index a : Nat} {Q : Option Value → va_W → Prop} (hm : Cond.code y cy ny none ∈ xt_T ∧ Cond.instanceMethod y ∈ xt_T ∧ Cond.initialized y.cls ∈ xt_T ∧ (y.cls ≠ "java/lang/invoke/MethodHandle" ∧ y.cls ≠ "java/lang/invoke/VarHandle") ∧ (parseMethodDescriptor y.desc).map (fun d => d.parameters.length) = some 0) (hy : y.name = "<init>") (hlk : Cond.methodLink own index y ∈ xt_T) (hct : xt_Cw E cx.2.1 y cy ny none fr lw k1 n1 [.ref a] w Q)
    (hr : fr + 1 ≤ rm.frames ∧ 8 + (ny + 11) + lw ≤ rm.locals ∧ k + k1 ≤ rm.cells ∧ n + n1 ≤ rm.slots) (hlo : lo.length = nL) (hw : (st.map fun v => v.category).sum ≤ 8) (d : decode cc pc = .ok (.invokespecial index, 3)) (kk : ∀ v w', Q v w' → xt_Yw E cx Z (k + k1) (n + n1) (pc + 3) lo (v.toList ++ st) w') : xt_Yw E cx Z k n pc lo (.ref a :: st) w := by
  intro H locs ls h1 hD h2 h3
  obtain ⟨hx, hb, hml, hown, hts, hK, hR, -⟩ := C
  subst hR
  have hrun := va_runI (e := cx.2.2.1) (below := cx.2.2.2.2.2.2.2.1) (meth := cx.2.2.2.2.2.2.2.2.1) (c := cx.2.2.2.2.2.2.2.2.2) (locs := locs) (H := H) (cells := k) (slots := n) (Ts := xt_T) (As := []) (rest := st) (g := F0 cx.2.2.2.2.2.1 pc ls (.ref a :: st)) ⟨hx, hb, hml, hown, hts⟩ hct ⟨⟨rfl, rfl, hr.1, hr.2.1, xt_good hts hm.1, List.mem_cons_self, hts _ hm.1, hts _ hm.2.2.1, hm.2.2.2.1, fun sig h => (Option.some.inj (by have h9 := hm.2.2.2.2; rw [h] at h9; exact h9)).symm, hts _ hlk⟩, hy, hts _ hm.2.1⟩ ⟨xt_blindW, fun U hU hW => ⟨rfl, by rw [hU]; exact h1, hD, xt_K0_warm hW h2 hU hK.1, by rw [hU]; exact Nat.le_trans hK.2 h2.1⟩⟩ rfl rfl (h3.1.trans hlo) rfl (lv_room hw) d ⟨hr.2.2.1, hr.2.2.2⟩
  intro T9 hT X9
  obtain ⟨v, st₀, t, T', L, h0, X', hL, e1, e2, ⟨⟨v', w', hv, hq, hP1, hD1⟩, hz, hk⟩, hst⟩ := hrun T9 hT X9
  cases hv
  rw [h0] at hz hk
  obtain ⟨t2, a1, b1⟩ := kk v w' hq T'.heap (locs ++ L) ls (by rw [e1]; exact hP1) hD1
    ⟨Nat.le_trans h2.1 (by rw [e1]; exact hz), fun q g1 g2 => by rw [e1, hk q (Nat.lt_of_lt_of_le g1 h2.1) g2]; exact h2.2.1 q g1 g2, fun q hq => by
      rcases List.mem_append.mp hq with h | h
      · exact h2.2.2 q h
      · exact hL q h⟩ h3 T' rfl X'
  exact ⟨t2, hst t2 a1, b1⟩
theorem yv_callV (C : xt_Ok0 own cc nL ret rm E cx) {y : MethodName} {cy : ByteArray} {ny fr lw k1 n1 index a ci N i : Nat} {rt : Option FieldType} {T : u_T} {fs As : List Value} {st0 : List Value} {Q : Option Value → va_W → Prop} (hm : xt_Mv y cy ny rt As.length) (hlk : Cond.methodLink own index y ∈ xt_T) (hct : xt_Cw E cx.2.1 y cy ny rt fr lw k1 n1 (.ref a :: As) w Q) (hs : st0 = As.reverse ++ .ref a :: st) (hc : w[i]? = some (a, .inr (ci, fs))) (hcl : vwCl[ci]? = some (y.cls, T, N))
    (hr : fr + 1 ≤ rm.frames ∧ 8 + (ny + 11) + lw ≤ rm.locals ∧ k + k1 ≤ rm.cells ∧ n + n1 ≤ rm.slots) (hlo : lo.length = nL) (hw : (st.map fun v => v.category).sum ≤ 8) (d : decode cc pc = .ok (.invokevirtual index, 3)) (kk : ∀ v w', Q v w' → xt_Yw E cx Z (k + k1) (n + n1) (pc + 3) lo (v.toList ++ st) w') : xt_Yw E cx Z k n pc lo st0 w := by
  intro H locs ls h1 hD h2 h3
  obtain ⟨hx, hb, hml, hown, hts, hK, hR, -⟩ := C
  subst hR
  have hrun := va_runV (e := cx.2.2.1) (below := cx.2.2.2.2.2.2.2.1) (meth := cx.2.2.2.2.2.2.2.2.1) (c := cx.2.2.2.2.2.2.2.2.2) (locs := locs) (H := H) (cells := k) (slots := n) (Ts := xt_T) (As := As) (rest := st) (g := F0 cx.2.2.2.2.2.1 pc ls st0) ⟨hx, hb, hml, hown, hts⟩ hct ⟨⟨rfl, rfl, hr.1, hr.2.1, xt_good hts hm.1, List.mem_cons_self, hts _ hm.1, hts _ hm.2.2.2.1, hm.2.2.2.2.1, fun sig h => (Option.some.inj (by have h9 := hm.2.2.2.2.2; rw [h] at h9; exact h9)).symm, hts _ hlk⟩, hts _ hm.2.1, hts _ hm.2.2.1⟩ ⟨xt_blindW, va_recv hK.1.1.1 h1 hcl hc, fun U hU hW => ⟨rfl, by rw [hU]; exact h1, hD, xt_K0_warm hW h2 hU hK.1, by rw [hU]; exact Nat.le_trans hK.2 h2.1⟩⟩ rfl rfl (h3.1.trans hlo) hs (lv_room hw) d ⟨hr.2.2.1, hr.2.2.2⟩
  intro T9 hT X9
  obtain ⟨v, st₀, t, T', L, h0, X', hL, e1, e2, ⟨⟨v', w', hv, hq, hP1, hD1⟩, hz, hk⟩, hst⟩ := hrun T9 hT X9
  cases hv
  rw [h0] at hz hk
  obtain ⟨t2, a1, b1⟩ := kk v w' hq T'.heap (locs ++ L) ls (by rw [e1]; exact hP1) hD1
    ⟨Nat.le_trans h2.1 (by rw [e1]; exact hz), fun q g1 g2 => by rw [e1, hk q (Nat.lt_of_lt_of_le g1 h2.1) g2]; exact h2.2.1 q g1 g2, fun q hq => by
      rcases List.mem_append.mp hq with h | h
      · exact h2.2.2 q h
      · exact hL q h⟩ h3 T' rfl X'
  exact ⟨t2, hst t2 a1, b1⟩
end XN1
