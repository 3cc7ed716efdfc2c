/-! THE JUDGEMENT xt_X: the machine, at pc with locals lo, operand stack st and the system's state S, comes to its end Z. -/
section XT2
/-- the classes of exceptions that are no other's kind -/
def xt_nc : List (String × String) := [("java/lang/IllegalArgumentException", "java/lang/IndexOutOfBoundsException"), ("java/lang/UnsupportedOperationException", "java/lang/IndexOutOfBoundsException"), ("java/lang/UnsupportedOperationException", "java/lang/IllegalArgumentException"), ("java/lang/IndexOutOfBoundsException", "java/lang/IllegalArgumentException"), ("java/lang/IndexOutOfBoundsException", "java/util/NoSuchElementException")]
def xt_Kn (E : xt_Ev) (U : State) : Prop :=
  xt_Eo E ∧ va_K E.2.2.1 vwCl (xt_ty E) U ∧ (∀ w ∈ xt_nw, va_Nw w U) ∧
  vx_Zq Bundle.tN "UNASSIGNED_STACK" Bundle.steD (xt_Af E) U U.heap ∧ vx_Zq Bundle.tN "SUPPRESSED_SENTINEL" Bundle.listD (xt_Af E) U U.heap ∧
  vk_S 31 xt_tl xt_tb E.2.2.2.2.1 E.2.2.2.2.2 (xt_Af E) U U.heap ∧ (∀ i q, xt_tx[i]? = some q → vk_R q.1 q.2.1 q.2.2 (E.2.2.2.2.1 i) U) ∧
  va_Z "java/lang/String" "COMPACT_STRINGS" "Z" (.int 1) (xt_Af E) U U.heap ∧ va_Zq "jdk/internal/util/Preconditions" "SIOOBE_FORMATTER" "Ljava/util/function/BiFunction;" (xt_Af E) U U.heap ∧ (∀ q ∈ xt_nc, va_Nc q.1 q.2 U)
theorem xt_Kn_warm {E : xt_Ev} {s U : State} {H : Heap} {locs : List Loc} (hW : s.WarmedH U.vm) (hS : va_S (xt_Af E) s.heap H locs) (hU : U.heap = H) (h : xt_Kn E s) : xt_Kn E U := by
  obtain ⟨h1, h2, h3, h4, h5, h6, h7, h8, h9, h10⟩ := h
  subst hU
  exact ⟨h1, va_K.moved hW.alike h2, fun w hw => xt_nw_warm hW (List.mem_filter.mp hw).2 (h3 w hw), vx_Zq.kept (vx_Zq.moved hW.alike h4) hS.2.1, vx_Zq.kept (vx_Zq.moved hW.alike h5) hS.2.1, vk_S.kept (vk_S.moved hW.alike h6) hS.2.1, fun i q hq => vk_R.warm hW (h7 i q hq), va_Z.kept (va_Z.moved hW.alike h8) hS.2.1, va_Zq.kept (va_Zq.moved hW.alike h9) hS.2.1, fun q hq => va_Nc.moved hW.alike (h10 q hq)⟩
theorem xt_Kn_calling {E : xt_Ev} {U : State} {g : JFrame} {mk : MethodId} {a : Array Value} (h : xt_Kn E U) : xt_Kn E (U.calling g mk a) := by
  obtain ⟨h1, h2, h3, h4, h5, h6, h7, h8, h9, h10⟩ := h
  exact ⟨h1, va_K.moved (u := U) (U := U.calling g mk a) (Vm.Alike.refl U.vm) h2, fun w hw => va_Nw.same (u := U) (xt_nw_tab (List.mem_filter.mp hw).2) rfl (h3 w hw), vx_Zq.moved (u := U) (Vm.Alike.refl U.vm) h4, vx_Zq.moved (u := U) (Vm.Alike.refl U.vm) h5, vk_S.moved (u := U) (Vm.Alike.refl U.vm) h6, fun i q hq => vk_R.same (u := U) rfl (h7 i q hq), va_Z.moved (u := U) (Vm.Alike.refl U.vm) h8, va_Zq.moved (u := U) (Vm.Alike.refl U.vm) h9, fun q hq => va_Nc.moved (u := U) (Vm.Alike.refl U.vm) (h10 q hq)⟩
abbrev xt_Cx : Type := Program × Launch × Env × Room × State × MethodId × Array Value × List Frame × Method × Code
abbrev xt_W (cx : xt_Cx) (H : Heap) (locs : List Loc) (k n : Nat) (Z : State → Prop) (g : JFrame) : Prop := W cx.1 cx.2.1 cx.2.2.1 cx.2.2.2.1 cx.2.2.2.2.1 cx.2.2.2.2.2.1 cx.2.2.2.2.2.2.1 cx.2.2.2.2.2.2.2.1 cx.2.2.2.2.2.2.2.2.1 cx.2.2.2.2.2.2.2.2.2 H locs k n Z g
/-- the locals: what is known of them, by their places -/
def xt_lh (ls : Array Slot) (lo : List (Option Value)) : Prop := ls.size = lo.length ∧ lv_wf ls ∧ ∀ (i : Nat) (v : Value), lo[i]? = some (some v) → ls[i]? = some (.val v)
def xt_X (E : xt_Ev) (cx : xt_Cx) (Z : State → Prop) (k n pc : Nat) (lo : List (Option Value)) (st : List Value) (S : xt_St) : Prop :=
  ∀ (H : Heap) (locs : List Loc) (ls : Array Slot), xt_Lk E S H → va_S (xt_Af E) cx.2.2.2.2.1.heap H locs → xt_lh ls lo → xt_W cx H locs k n Z (F0 cx.2.2.2.2.2.1 pc ls st)
/-- what holds all through a body: the machine, the code, the locals' number, the class, the words, the surroundings, the room, no lock, the answer's type, no stack traces -/
def xt_Ok (own : String) (cc : ByteArray) (nL : Nat) (ret : Option FieldType) (rm : Room) (E : xt_Ev) (cx : xt_Cx) : Prop :=
  cx.1.tables.exec = Jvm.exec ∧ cx.2.2.2.2.2.2.2.2.2.code = cc ∧ cx.2.2.2.2.2.2.2.2.2.maxLocals = nL ∧ cx.2.2.2.2.1.vm.findClass own = some cx.2.2.2.2.2.1.cls ∧ (∀ w ∈ xt_T, w.before cx.2.2.2.2.2.2.1 cx.2.2.2.2.1 = true) ∧
  xt_Kn E cx.2.2.2.2.1 ∧ cx.2.2.2.1 = rm ∧ cx.2.2.2.2.2.2.2.2.1.locks = false ∧ cx.2.2.2.2.2.2.2.2.1.sig.returnType = ret
def xt_pr (lo : List (Option Value)) : List (Nat × Value) := (List.range lo.length).filterMap (fun j => (lo[j]?.join).map (fun v => (j, v)))
def xt_cat2 (lo : List (Option Value)) : Nat → Bool
  | 0 => false
  | j + 1 => match lo[j]? with
    | some (some v) => v.category == 2
    | _ => false
theorem xt_pr_of {lo : List (Option Value)} {i : Nat} {v : Value} : (i, v) ∈ xt_pr lo ↔ lo[i]? = some (some v) := by
  constructor
  · intro h
    obtain ⟨j, -, hj⟩ := List.mem_filterMap.mp h
    cases hq : lo[j]? with
    | none => rw [hq] at hj; cases hj
    | some z =>
      rw [hq] at hj
      cases z with
      | none => cases hj
      | some w =>
        have h9 : (j, w) = (i, v) := by simpa using hj
        cases h9
        exact hq
  · intro h
    have hl : i < lo.length := (List.getElem?_eq_some_iff.mp h).1
    refine List.mem_filterMap.mpr ⟨i, List.mem_range.mpr hl, ?_⟩
    rw [h]
    rfl
theorem xt_lh_has {ls : Array Slot} {lo : List (Option Value)} (h : xt_lh ls lo) : lv_has ls lo.length (xt_pr lo) := ⟨h.1, h.2.1, fun q hq => h.2.2 q.1 q.2 (xt_pr_of.mp hq)⟩
theorem xt_st1 {ls : Array Slot} {lo : List (Option Value)} {i : Nat} {v : Value} (h : lv_has ls lo.length ((i, v) :: (xt_pr lo).filter (fun q => !(q.1 == i) && !(q.1 + 1 == i && q.2.category == 2)))) (hc : xt_cat2 lo i = false) : xt_lh ls (lo.set i (some v)) := by
  refine ⟨by rw [List.length_set]; exact h.1, h.2.1, fun j w hj => ?_⟩
  by_cases hji : j = i
  · subst hji
    have hl : j < lo.length := by
      have := (List.getElem?_eq_some_iff.mp hj).1
      rwa [List.length_set] at this
    rw [List.getElem?_set_self hl] at hj
    cases hj
    exact h.2.2 (j, v) List.mem_cons_self
  · rw [List.getElem?_set_ne (fun z => hji z.symm)] at hj
    refine h.2.2 (j, w) (List.mem_cons_of_mem _ (List.mem_filter.mpr ⟨xt_pr_of.mpr hj, ?_⟩))
    have h1 : (j == i) = false := by simpa using hji
    rw [h1]
    cases hi : i with
    | zero => simp
    | succ z =>
      rw [hi] at hc
      by_cases hz : j = z
      · subst hz
        have h2 : (w.category == 2) = false := by simpa only [xt_cat2, hj] using hc
        simp [h2]
      · simp [hz]
def xt_ZM (E : xt_Ev) (cx : xt_Cx) (k n : Nat) (Q : Option Value → xt_St → Prop) : State → Prop :=
  MQ cx.2.2.2.2.2.2.2.1 (fun _ st o t => (∃ v S', o = .returned v ∧ Q v S' ∧ xt_Lk E S' t.heap) ∧ va_F (xt_Af E) st t) cx.2.2.2.2.2.2.1 cx.2.2.2.2.1 k n (xt_Af E)
def xt_Qr (E : xt_Ev) (Q : Option Value → xt_St → Prop) : Array Value → State → Outcome → State → Prop := fun _ st o t => (∃ v S', o = .returned v ∧ Q v S' ∧ xt_Lk E S' t.heap) ∧ va_F (xt_Af E) st t
def xt_Xr (E : xt_Ev) (QX : String → xt_St → Prop) : String → State → State → Prop := fun X st t => (∃ S', QX X S' ∧ xt_Lk E S' t.heap) ∧ va_F (xt_Af E) st t
def xt_ZX (E : xt_Ev) (cx : xt_Cx) (k n : Nat) (Q : Option Value → xt_St → Prop) (QX : String → xt_St → Prop) : State → Prop :=
  vx_MQ cx.2.2.2.2.2.2.2.1 (xt_Qr E Q) (xt_Xr E QX) cx.2.2.2.2.2.2.1 cx.2.2.2.2.1 k n (xt_Af E)
/-- a method's contract: for these arguments in this state it returns, and Q holds of the answer and the state then -/
def xt_Ct (E : xt_Ev) (l : Launch) (y : MethodName) (cc : ByteArray) (nL : Nat) (ret : Option FieldType) (fr lw k n : Nat) (av : List Value) (S : xt_St) (Q : Option Value → xt_St → Prop) : Prop :=
  Met l y (.code y cc nL ret :: xt_T) ({ frames := fr, cells := k, slots := n, locals := lw }) (va_Pc av (fun U => xt_Lk E S U.heap ∧ xt_Kn E U)) (xt_Qr E Q) k n (xt_Af E)
/-- .. that may throw: QX of the exception's class -/
def xt_CtX (E : xt_Ev) (l : Launch) (y : MethodName) (cc : ByteArray) (nL : Nat) (ret : Option FieldType) (fr lw k n : Nat) (av : List Value) (S : xt_St) (Q : Option Value → xt_St → Prop) (QX : String → xt_St → Prop) : Prop :=
  vx_Met l y (.code y cc nL ret :: xt_T) ({ frames := fr, cells := k, slots := n, locals := lw }) (va_Pc av (fun U => xt_Lk E S U.heap ∧ xt_Kn E U)) (xt_Qr E Q) (xt_Xr E QX) k n (xt_Af E)
theorem xt_cat1 : ∀ (av : List Value), (∀ v ∈ av, v.category = 1) → lg_sl av = av.map Slot.val := by
  intro av
  induction av with
  | nil => intro _; rfl
  | cons a t ih =>
    intro h
    have h1 : a.category = 1 := h a List.mem_cons_self
    show (if a.category = 2 then [Slot.val a, Slot.second] else [Slot.val a]) ++ lg_sl t = _
    rw [ih (fun v hv => h v (List.mem_cons_of_mem _ hv)), h1]
    rfl
theorem xt_entry {av : List Value} {nL : Nat} {m : MethodId} (h1 : ∀ v ∈ av, v.category = 1) (h2 : av.length ≤ nL) : ∃ ls : Array Slot, entryFrame m av.toArray nL = F0 m 0 ls [] ∧ xt_lh ls (av.map some ++ List.replicate (nL - av.length) none) := by
  have hs := xt_cat1 av h1
  have hl := lv_entry av (n := nL) (by rw [hs, List.length_map]; exact h2)
  refine ⟨_, lg_entry_eq m av nL, ?_, hl.2.1, fun i v hi => ?_⟩
  · rw [hl.1]
    simp
    omega
  · rw [hs]
    by_cases hlt : i < av.length
    · rw [List.getElem?_append_left (by simpa using hlt), List.getElem?_map] at hi
      have h9 : av[i]? = some v := by
        cases h8 : av[i]? with
        | none => rw [h8] at hi; cases hi
        | some w => rw [h8] at hi; cases hi; rfl
      simp only [List.getElem?_toArray]
      rw [List.getElem?_append_left (by simpa using hlt), List.getElem?_map, h9]
      rfl
    · rw [List.getElem?_append_right (by simpa using hlt)] at hi
      have := List.mem_of_getElem? hi
      rw [List.mem_replicate] at this
      exact absurd this.2 (by simp)
end XT2
section XT3
variable {E : xt_Ev} {l : Launch} {y : MethodName} {cc : ByteArray} {nL fr lw k n : Nat} {ret : Option FieldType} {av : List Value} {S : xt_St} {Q : Option Value → xt_St → Prop} {QX : String → xt_St → Prop}
/-- a contract out of the walk of its body -/
theorem xt_body (hy : plainName y.cls = true) (h1 : ∀ v ∈ av, v.category = 1) (h2 : av.length ≤ nL)
    (h : ∀ cx : xt_Cx, xt_Ok y.cls cc nL ret ({ frames := fr, cells := k, slots := n, locals := lw }) E cx → cx.2.1 = l → xt_X E cx (xt_ZM E cx k n Q) 0 0 0 (av.map some ++ List.replicate (nL - av.length) none) [] S) : xt_Ct E l y cc nL ret fr lw k n av S Q := by
  refine Met.ofW (cc := cc) (maxL := nL) (ret := ret) hy rfl ?_
  intro p e s m args below meth c s₁ B hml hv
  obtain ⟨rfl, hLk, hKn⟩ := hv
  have hts := atoms_spec (ws := Cond.code y cc nL ret :: xt_T) B.pre
  obtain ⟨ls, he, hl⟩ := xt_entry (m := m) (nL := nL) h1 h2
  rw [he]
  exact h (p, l, e, _, s, m, av.toArray, below, meth, c) ⟨B.exec, B.bytes, hml, findClass_of_methodNamed B.named, fun w hw => hts w (List.mem_cons_of_mem _ hw), hKn, rfl, B.notSynchronized, B.returns⟩ rfl s.heap [] ls hLk va_S.rf hl
theorem xt_bodyX (hy : plainName y.cls = true) (h1 : ∀ v ∈ av, v.category = 1) (h2 : av.length ≤ nL)
    (h : ∀ cx : xt_Cx, xt_Ok y.cls cc nL ret ({ frames := fr, cells := k, slots := n, locals := lw }) E cx → cx.2.1 = l → (∀ x ∈ cx.2.2.2.2.2.2.2.2.2.exceptionTable.toList, False) → xt_X E cx (xt_ZX E cx k n Q QX) 0 0 0 (av.map some ++ List.replicate (nL - av.length) none) [] S) : xt_CtX E l y cc nL ret fr lw k n av S Q QX := by
  refine vx_ofW (cc := cc) (maxL := nL) (ret := ret) hy rfl ?_
  intro p e s m args below meth c s₁ B hml hxt hv
  obtain ⟨rfl, hLk, hKn⟩ := hv
  have hts := atoms_spec (ws := Cond.code y cc nL ret :: xt_T) B.pre
  obtain ⟨ls, he, hl⟩ := xt_entry (m := m) (nL := nL) h1 h2
  rw [he]
  exact h (p, l, e, _, s, m, av.toArray, below, meth, c) ⟨B.exec, B.bytes, hml, findClass_of_methodNamed B.named, fun w hw => hts w (List.mem_cons_of_mem _ hw), hKn, rfl, B.notSynchronized, B.returns⟩ rfl hxt s.heap [] ls hLk va_S.rf hl
end XT3
section XT4
variable {E : xt_Ev} {cx : xt_Cx} {Z : State → Prop} {k n pc nL : Nat} {lo lo' : List (Option Value)} {st : List Value} {S : xt_St} {own : String} {cc : ByteArray} {ret : Option FieldType} {rm : Room}
theorem xt_iconst (C : xt_Ok own cc nL ret rm E cx) {q : Int} {v : Int32} (d : decode cc pc = .ok (.iconst q, 1)) (hv : Int32.ofInt q = v) (kk : xt_X E cx Z k n (pc + 1) lo (.int v :: st) S) : xt_X E cx Z k n pc lo st S := fun H locs ls h1 h2 h3 => lv_iconst C.1 C.2.1 d hv (kk H locs ls h1 h2 h3)
theorem xt_bipush (C : xt_Ok own cc nL ret rm E cx) {q : Int} {v : Int32} (d : decode cc pc = .ok (.bipush q, 2)) (hv : (Int8.ofInt q).toInt32 = v) (kk : xt_X E cx Z k n (pc + 2) lo (.int v :: st) S) : xt_X E cx Z k n pc lo st S := fun H locs ls h1 h2 h3 => lv_bipush C.1 C.2.1 d hv (kk H locs ls h1 h2 h3)
theorem xt_sipush (C : xt_Ok own cc nL ret rm E cx) {q : Int} {v : Int32} (d : decode cc pc = .ok (.sipush q, 3)) (hv : (Int16.ofInt q).toInt32 = v) (kk : xt_X E cx Z k n (pc + 3) lo (.int v :: st) S) : xt_X E cx Z k n pc lo st S := fun H locs ls h1 h2 h3 => lv_sipush C.1 C.2.1 d hv (kk H locs ls h1 h2 h3)
theorem xt_lconst (C : xt_Ok own cc nL ret rm E cx) {q : Fin 2} {v : Int64} (d : decode cc pc = .ok (.lconst q, 1)) (hv : Int64.ofNat (q : Nat) = v) (kk : xt_X E cx Z k n (pc + 1) lo (.long v :: st) S) : xt_X E cx Z k n pc lo st S := fun H locs ls h1 h2 h3 => lv_lconst C.1 C.2.1 d hv (kk H locs ls h1 h2 h3)
theorem xt_dconst0 (C : xt_Ok own cc nL ret rm E cx) (d : decode cc pc = .ok (.dconst 0, 1)) (kk : xt_X E cx Z k n (pc + 1) lo (.double FP.dconst0 :: st) S) : xt_X E cx Z k n pc lo st S := fun H locs ls h1 h2 h3 => lv_dconst0 C.1 C.2.1 d (kk H locs ls h1 h2 h3)
theorem xt_null (C : xt_Ok own cc nL ret rm E cx) (d : decode cc pc = .ok (.aconst_null, 1)) (kk : xt_X E cx Z k n (pc + 1) lo (.null :: st) S) : xt_X E cx Z k n pc lo st S := fun H locs ls h1 h2 h3 => lv_null C.1 C.2.1 d (kk H locs ls h1 h2 h3)
theorem xt_iload_n (C : xt_Ok own cc nL ret rm E cx) {q : Fin 4} {x : Int32} (d : decode cc pc = .ok (.iload_n q, 1)) (hl : lo[(q : Nat)]? = some (some (.int x))) (kk : xt_X E cx Z k n (pc + 1) lo (.int x :: st) S) : xt_X E cx Z k n pc lo st S := fun H locs ls h1 h2 h3 => lv_iload_n C.1 C.2.1 d rfl (h3.2.2 _ _ hl) (kk H locs ls h1 h2 h3)
theorem xt_iload (C : xt_Ok own cc nL ret rm E cx) {q : Nat} {x : Int32} (d : decode cc pc = .ok (.iload q, 2)) (hl : lo[q]? = some (some (.int x))) (kk : xt_X E cx Z k n (pc + 2) lo (.int x :: st) S) : xt_X E cx Z k n pc lo st S := fun H locs ls h1 h2 h3 => lv_iload C.1 C.2.1 d (h3.2.2 _ _ hl) (kk H locs ls h1 h2 h3)
theorem xt_aload_n (C : xt_Ok own cc nL ret rm E cx) {q : Fin 4} {x : Nat} (d : decode cc pc = .ok (.aload_n q, 1)) (hl : lo[(q : Nat)]? = some (some (.ref x))) (kk : xt_X E cx Z k n (pc + 1) lo (.ref x :: st) S) : xt_X E cx Z k n pc lo st S := fun H locs ls h1 h2 h3 => lv_aload_n C.1 C.2.1 d rfl (h3.2.2 _ _ hl) (kk H locs ls h1 h2 h3)
theorem xt_aload (C : xt_Ok own cc nL ret rm E cx) {q : Nat} {x : Nat} (d : decode cc pc = .ok (.aload q, 2)) (hl : lo[q]? = some (some (.ref x))) (kk : xt_X E cx Z k n (pc + 2) lo (.ref x :: st) S) : xt_X E cx Z k n pc lo st S := fun H locs ls h1 h2 h3 => lv_aload C.1 C.2.1 d (h3.2.2 _ _ hl) (kk H locs ls h1 h2 h3)
theorem xt_aload_nN (C : xt_Ok own cc nL ret rm E cx) {q : Fin 4} (d : decode cc pc = .ok (.aload_n q, 1)) (hl : lo[(q : Nat)]? = some (some .null)) (kk : xt_X E cx Z k n (pc + 1) lo (.null :: st) S) : xt_X E cx Z k n pc lo st S := fun H locs ls h1 h2 h3 => lv_aload_nN C.1 C.2.1 d rfl (h3.2.2 _ _ hl) (kk H locs ls h1 h2 h3)
theorem xt_dload (C : xt_Ok own cc nL ret rm E cx) {q : Nat} {x : UInt64} (d : decode cc pc = .ok (.dload q, 2)) (hl : lo[q]? = some (some (.double x))) (kk : xt_X E cx Z k n (pc + 2) lo (.double x :: st) S) : xt_X E cx Z k n pc lo st S := fun H locs ls h1 h2 h3 => lv_dload C.1 C.2.1 d (h3.2.2 _ _ hl) (kk H locs ls h1 h2 h3)
theorem xt_istore_n (C : xt_Ok own cc nL ret rm E cx) {q : Fin 4} {x : Int32} (d : decode cc pc = .ok (.istore_n q, 1)) (hi : (q : Nat) < lo.length) (hc : xt_cat2 lo q = false) (hl : lo.set q (some (.int x)) = lo') (kk : xt_X E cx Z k n (pc + 1) lo' st S) : xt_X E cx Z k n pc lo (.int x :: st) S := fun H locs ls h1 h2 h3 => lv_istore_n C.1 C.2.1 d rfl (xt_lh_has h3) hi rfl (fun ls' h9 => kk H locs ls' h1 h2 (hl ▸ xt_st1 h9 hc))
theorem xt_istore (C : xt_Ok own cc nL ret rm E cx) {q : Nat} {x : Int32} (d : decode cc pc = .ok (.istore q, 2)) (hi : q < lo.length) (hc : xt_cat2 lo q = false) (hl : lo.set q (some (.int x)) = lo') (kk : xt_X E cx Z k n (pc + 2) lo' st S) : xt_X E cx Z k n pc lo (.int x :: st) S := fun H locs ls h1 h2 h3 => lv_istore C.1 C.2.1 d (xt_lh_has h3) hi rfl (fun ls' h9 => kk H locs ls' h1 h2 (hl ▸ xt_st1 h9 hc))
theorem xt_astore_n (C : xt_Ok own cc nL ret rm E cx) {q : Fin 4} {x : Nat} (d : decode cc pc = .ok (.astore_n q, 1)) (hi : (q : Nat) < lo.length) (hc : xt_cat2 lo q = false) (hl : lo.set q (some (.ref x)) = lo') (kk : xt_X E cx Z k n (pc + 1) lo' st S) : xt_X E cx Z k n pc lo (.ref x :: st) S := fun H locs ls h1 h2 h3 => lv_astore_n C.1 C.2.1 d rfl (xt_lh_has h3) hi rfl (fun ls' h9 => kk H locs ls' h1 h2 (hl ▸ xt_st1 h9 hc))
theorem xt_astore (C : xt_Ok own cc nL ret rm E cx) {q : Nat} {x : Nat} (d : decode cc pc = .ok (.astore q, 2)) (hi : q < lo.length) (hc : xt_cat2 lo q = false) (hl : lo.set q (some (.ref x)) = lo') (kk : xt_X E cx Z k n (pc + 2) lo' st S) : xt_X E cx Z k n pc lo (.ref x :: st) S := fun H locs ls h1 h2 h3 => lv_astore C.1 C.2.1 d (xt_lh_has h3) hi rfl (fun ls' h9 => kk H locs ls' h1 h2 (hl ▸ xt_st1 h9 hc))
theorem xt_iinc (C : xt_Ok own cc nL ret rm E cx) {q : Nat} {z : Int} {x v : Int32} (d : decode cc pc = .ok (.iinc q z, 3)) (hx : lo[q]? = some (some (.int x))) (hv : x + Int32.ofInt z = v) (hc : xt_cat2 lo q = false) (hl : lo.set q (some (.int v)) = lo') (kk : xt_X E cx Z k n (pc + 3) lo' st S) : xt_X E cx Z k n pc lo st S := by
  intro H locs ls h1 h2 h3
  obtain ⟨j, hj⟩ := List.getElem?_of_mem (xt_pr_of.mpr hx)
  exact lv_iinc C.1 C.2.1 d (xt_lh_has h3) hj hv (List.getElem?_eq_some_iff.mp hx).1 rfl (fun ls' h9 => kk H locs ls' h1 h2 (hl ▸ xt_st1 h9 hc))
theorem xt_iadd (C : xt_Ok own cc nL ret rm E cx) {x y : Int32} (d : decode cc pc = .ok (.iadd, 1)) (kk : xt_X E cx Z k n (pc + 1) lo (.int (x + y) :: st) S) : xt_X E cx Z k n pc lo (.int y :: .int x :: st) S := fun H locs ls h1 h2 h3 => lv_iadd C.1 C.2.1 d (kk H locs ls h1 h2 h3)
theorem xt_isub (C : xt_Ok own cc nL ret rm E cx) {x y : Int32} (d : decode cc pc = .ok (.isub, 1)) (kk : xt_X E cx Z k n (pc + 1) lo (.int (x - y) :: st) S) : xt_X E cx Z k n pc lo (.int y :: .int x :: st) S := fun H locs ls h1 h2 h3 => lv_isub C.1 C.2.1 d (kk H locs ls h1 h2 h3)
theorem xt_imul (C : xt_Ok own cc nL ret rm E cx) {x y : Int32} (d : decode cc pc = .ok (.imul, 1)) (kk : xt_X E cx Z k n (pc + 1) lo (.int (x * y) :: st) S) : xt_X E cx Z k n pc lo (.int y :: .int x :: st) S := fun H locs ls h1 h2 h3 => lv_imul C.1 C.2.1 d (kk H locs ls h1 h2 h3)
theorem xt_iand (C : xt_Ok own cc nL ret rm E cx) {x y : Int32} (d : decode cc pc = .ok (.iand, 1)) (kk : xt_X E cx Z k n (pc + 1) lo (.int (x &&& y) :: st) S) : xt_X E cx Z k n pc lo (.int y :: .int x :: st) S := fun H locs ls h1 h2 h3 => lv_iand C.1 C.2.1 d (kk H locs ls h1 h2 h3)
theorem xt_ior (C : xt_Ok own cc nL ret rm E cx) {x y : Int32} (d : decode cc pc = .ok (.ior, 1)) (kk : xt_X E cx Z k n (pc + 1) lo (.int (x ||| y) :: st) S) : xt_X E cx Z k n pc lo (.int y :: .int x :: st) S := fun H locs ls h1 h2 h3 => lv_ior C.1 C.2.1 d (kk H locs ls h1 h2 h3)
theorem xt_ishl (C : xt_Ok own cc nL ret rm E cx) {x y : Int32} (d : decode cc pc = .ok (.ishl, 1)) (kk : xt_X E cx Z k n (pc + 1) lo (.int (x <<< (y &&& 31)) :: st) S) : xt_X E cx Z k n pc lo (.int y :: .int x :: st) S := fun H locs ls h1 h2 h3 => lv_ishl C.1 C.2.1 d (kk H locs ls h1 h2 h3)
theorem xt_ishr (C : xt_Ok own cc nL ret rm E cx) {x y : Int32} (d : decode cc pc = .ok (.ishr, 1)) (kk : xt_X E cx Z k n (pc + 1) lo (.int (x >>> (y &&& 31)) :: st) S) : xt_X E cx Z k n pc lo (.int y :: .int x :: st) S := fun H locs ls h1 h2 h3 => lv_ishr C.1 C.2.1 d (kk H locs ls h1 h2 h3)
theorem xt_idiv (C : xt_Ok own cc nL ret rm E cx) {x y : Int32} (d : decode cc pc = .ok (.idiv, 1)) (hne : ¬ y = 0) (kk : xt_X E cx Z k n (pc + 1) lo (.int (x / y) :: st) S) : xt_X E cx Z k n pc lo (.int y :: .int x :: st) S := fun H locs ls h1 h2 h3 => lv_idiv C.1 C.2.1 d hne (kk H locs ls h1 h2 h3)
theorem xt_irem (C : xt_Ok own cc nL ret rm E cx) {x y v : Int32} (d : decode cc pc = .ok (.irem, 1)) (hne : ¬ y = 0) (hv : x - x / y * y = v) (kk : xt_X E cx Z k n (pc + 1) lo (.int v :: st) S) : xt_X E cx Z k n pc lo (.int y :: .int x :: st) S := by
  subst hv
  exact fun H locs ls h1 h2 h3 => lv_irem C.1 C.2.1 d hne (kk H locs ls h1 h2 h3)
theorem xt_ineg (C : xt_Ok own cc nL ret rm E cx) {x : Int32} (d : decode cc pc = .ok (.ineg, 1)) (kk : xt_X E cx Z k n (pc + 1) lo (.int (-x) :: st) S) : xt_X E cx Z k n pc lo (.int x :: st) S := fun H locs ls h1 h2 h3 => lv_ineg C.1 C.2.1 d (kk H locs ls h1 h2 h3)
theorem xt_lor (C : xt_Ok own cc nL ret rm E cx) {x y : Int64} (d : decode cc pc = .ok (.lor, 1)) (kk : xt_X E cx Z k n (pc + 1) lo (.long (x ||| y) :: st) S) : xt_X E cx Z k n pc lo (.long y :: .long x :: st) S := fun H locs ls h1 h2 h3 => lv_lor C.1 C.2.1 d (kk H locs ls h1 h2 h3)
theorem xt_lshl (C : xt_Ok own cc nL ret rm E cx) {x v : Int64} {y : Int32} (d : decode cc pc = .ok (.lshl, 1)) (hv : x <<< (y.toInt64 &&& 63) = v) (kk : xt_X E cx Z k n (pc + 1) lo (.long v :: st) S) : xt_X E cx Z k n pc lo (.int y :: .long x :: st) S := fun H locs ls h1 h2 h3 => lv_lshl C.1 C.2.1 d hv (kk H locs ls h1 h2 h3)
theorem xt_i2l (C : xt_Ok own cc nL ret rm E cx) {x : Int32} {v : Int64} (d : decode cc pc = .ok (.i2l, 1)) (hv : x.toInt64 = v) (kk : xt_X E cx Z k n (pc + 1) lo (.long v :: st) S) : xt_X E cx Z k n pc lo (.int x :: st) S := fun H locs ls h1 h2 h3 => lv_i2l C.1 C.2.1 d hv (kk H locs ls h1 h2 h3)
theorem xt_i2c (C : xt_Ok own cc nL ret rm E cx) {x v : Int32} (d : decode cc pc = .ok (.i2c, 1)) (hv : (x.toUInt32 % 65536).toInt32 = v) (kk : xt_X E cx Z k n (pc + 1) lo (.int v :: st) S) : xt_X E cx Z k n pc lo (.int x :: st) S := fun H locs ls h1 h2 h3 => lv_i2c C.1 C.2.1 d hv (kk H locs ls h1 h2 h3)
theorem xt_i2d (C : xt_Ok own cc nL ret rm E cx) {x : Int32} (d : decode cc pc = .ok (.i2d, 1)) (kk : xt_X E cx Z k n (pc + 1) lo (.double (FP.i2d x) :: st) S) : xt_X E cx Z k n pc lo (.int x :: st) S := fun H locs ls h1 h2 h3 => lv_i2d C.1 C.2.1 d (kk H locs ls h1 h2 h3)
theorem xt_ddiv (C : xt_Ok own cc nL ret rm E cx) {x y : UInt64} (d : decode cc pc = .ok (.ddiv, 1)) (hne : vf_n64 (FP.ddiv x y)) (kk : xt_X E cx Z k n (pc + 1) lo (.double (FP.ddiv x y) :: st) S) : xt_X E cx Z k n pc lo (.double y :: .double x :: st) S := fun H locs ls h1 h2 h3 => lv_ddiv C.1 C.2.1 d hne (kk H locs ls h1 h2 h3)
theorem xt_dcmp (C : xt_Ok own cc nL ret rm E cx) {x y : UInt64} {op : CmpOp} (d : decode cc pc = .ok (.dcmp op, 1)) (kk : xt_X E cx Z k n (pc + 1) lo (.int (Op.cmpValue (FP.dcmp x y) op) :: st) S) : xt_X E cx Z k n pc lo (.double y :: .double x :: st) S := fun H locs ls h1 h2 h3 => lv_dcmp C.1 C.2.1 d (kk H locs ls h1 h2 h3)
theorem xt_lcmp (C : xt_Ok own cc nL ret rm E cx) {x y : Int64} (d : decode cc pc = .ok (.lcmp, 1)) (kk : xt_X E cx Z k n (pc + 1) lo (.int (lg_cmp x y) :: st) S) : xt_X E cx Z k n pc lo (.long y :: .long x :: st) S := fun H locs ls h1 h2 h3 => W.lcmp C.1 C.2.1 d (kk H locs ls h1 h2 h3)
theorem xt_dup (C : xt_Ok own cc nL ret rm E cx) {va : Value} (d : decode cc pc = .ok (.dup, 1)) (hva : va.category = 1) (kk : xt_X E cx Z k n (pc + 1) lo (va :: va :: st) S) : xt_X E cx Z k n pc lo (va :: st) S := fun H locs ls h1 h2 h3 => lv_dup C.1 C.2.1 d hva (kk H locs ls h1 h2 h3)
theorem xt_pop (C : xt_Ok own cc nL ret rm E cx) {va : Value} (d : decode cc pc = .ok (.pop, 1)) (hva : va.category = 1) (kk : xt_X E cx Z k n (pc + 1) lo st S) : xt_X E cx Z k n pc lo (va :: st) S := fun H locs ls h1 h2 h3 => lv_pop C.1 C.2.1 d hva (kk H locs ls h1 h2 h3)
theorem xt_dup_x1 (C : xt_Ok own cc nL ret rm E cx) {va vb : Value} (d : decode cc pc = .ok (.dup_x1, 1)) (hva : va.category = 1) (hvb : vb.category = 1) (kk : xt_X E cx Z k n (pc + 1) lo (va :: vb :: va :: st) S) : xt_X E cx Z k n pc lo (va :: vb :: st) S := fun H locs ls h1 h2 h3 => lv_dup_x1 C.1 C.2.1 d hva hvb (kk H locs ls h1 h2 h3)
theorem xt_dup2 (C : xt_Ok own cc nL ret rm E cx) {va vb : Value} (d : decode cc pc = .ok (.dup2, 1)) (hva : va.category = 1) (hvb : vb.category = 1) (kk : xt_X E cx Z k n (pc + 1) lo (va :: vb :: va :: vb :: st) S) : xt_X E cx Z k n pc lo (va :: vb :: st) S := fun H locs ls h1 h2 h3 => lv_dup2_11 C.1 C.2.1 d hva hvb (kk H locs ls h1 h2 h3)
theorem xt_if_eq (C : xt_Ok own cc nL ret rm E cx) {x : Int32} {off : Int} {tgt : Nat} (d : decode cc pc = .ok (.ifCond .eq off, 3)) (ht : (pc : Int) + off = (tgt : Int)) (kt : x = 0 → xt_X E cx Z k n tgt lo st S) (kf : ¬ (x = 0) → xt_X E cx Z k n (pc + 3) lo st S) : xt_X E cx Z k n pc lo (.int x :: st) S := fun H locs ls h1 h2 h3 => lv_if_eq C.1 C.2.1 d ht (fun h9 => kt h9 H locs ls h1 h2 h3) (fun h9 => kf h9 H locs ls h1 h2 h3)
theorem xt_icmp_eq (C : xt_Ok own cc nL ret rm E cx) {x y : Int32} {off : Int} {tgt : Nat} (d : decode cc pc = .ok (.if_icmp .eq off, 3)) (ht : (pc : Int) + off = (tgt : Int)) (kt : x = y → xt_X E cx Z k n tgt lo st S) (kf : ¬ (x = y) → xt_X E cx Z k n (pc + 3) lo st S) : xt_X E cx Z k n pc lo (.int y :: .int x :: st) S := fun H locs ls h1 h2 h3 => lv_icmp_eq C.1 C.2.1 d ht (fun h9 => kt h9 H locs ls h1 h2 h3) (fun h9 => kf h9 H locs ls h1 h2 h3)
theorem xt_if_ne (C : xt_Ok own cc nL ret rm E cx) {x : Int32} {off : Int} {tgt : Nat} (d : decode cc pc = .ok (.ifCond .ne off, 3)) (ht : (pc : Int) + off = (tgt : Int)) (kt : ¬ x = 0 → xt_X E cx Z k n tgt lo st S) (kf : x = 0 → xt_X E cx Z k n (pc + 3) lo st S) : xt_X E cx Z k n pc lo (.int x :: st) S := fun H locs ls h1 h2 h3 => lv_if_ne C.1 C.2.1 d ht (fun h9 => kt h9 H locs ls h1 h2 h3) (fun h9 => kf h9 H locs ls h1 h2 h3)
theorem xt_icmp_ne (C : xt_Ok own cc nL ret rm E cx) {x y : Int32} {off : Int} {tgt : Nat} (d : decode cc pc = .ok (.if_icmp .ne off, 3)) (ht : (pc : Int) + off = (tgt : Int)) (kt : ¬ x = y → xt_X E cx Z k n tgt lo st S) (kf : x = y → xt_X E cx Z k n (pc + 3) lo st S) : xt_X E cx Z k n pc lo (.int y :: .int x :: st) S := fun H locs ls h1 h2 h3 => lv_icmp_ne C.1 C.2.1 d ht (fun h9 => kt h9 H locs ls h1 h2 h3) (fun h9 => kf h9 H locs ls h1 h2 h3)
theorem xt_if_lt (C : xt_Ok own cc nL ret rm E cx) {x : Int32} {off : Int} {tgt : Nat} (d : decode cc pc = .ok (.ifCond .lt off, 3)) (ht : (pc : Int) + off = (tgt : Int)) (kt : x < 0 → xt_X E cx Z k n tgt lo st S) (kf : ¬ (x < 0) → xt_X E cx Z k n (pc + 3) lo st S) : xt_X E cx Z k n pc lo (.int x :: st) S := fun H locs ls h1 h2 h3 => lv_if_lt C.1 C.2.1 d ht (fun h9 => kt h9 H locs ls h1 h2 h3) (fun h9 => kf h9 H locs ls h1 h2 h3)
theorem xt_icmp_lt (C : xt_Ok own cc nL ret rm E cx) {x y : Int32} {off : Int} {tgt : Nat} (d : decode cc pc = .ok (.if_icmp .lt off, 3)) (ht : (pc : Int) + off = (tgt : Int)) (kt : x < y → xt_X E cx Z k n tgt lo st S) (kf : ¬ (x < y) → xt_X E cx Z k n (pc + 3) lo st S) : xt_X E cx Z k n pc lo (.int y :: .int x :: st) S := fun H locs ls h1 h2 h3 => lv_icmp_lt C.1 C.2.1 d ht (fun h9 => kt h9 H locs ls h1 h2 h3) (fun h9 => kf h9 H locs ls h1 h2 h3)
theorem xt_if_ge (C : xt_Ok own cc nL ret rm E cx) {x : Int32} {off : Int} {tgt : Nat} (d : decode cc pc = .ok (.ifCond .ge off, 3)) (ht : (pc : Int) + off = (tgt : Int)) (kt : 0 ≤ x → xt_X E cx Z k n tgt lo st S) (kf : ¬ (0 ≤ x) → xt_X E cx Z k n (pc + 3) lo st S) : xt_X E cx Z k n pc lo (.int x :: st) S := fun H locs ls h1 h2 h3 => lv_if_ge C.1 C.2.1 d ht (fun h9 => kt h9 H locs ls h1 h2 h3) (fun h9 => kf h9 H locs ls h1 h2 h3)
theorem xt_icmp_ge (C : xt_Ok own cc nL ret rm E cx) {x y : Int32} {off : Int} {tgt : Nat} (d : decode cc pc = .ok (.if_icmp .ge off, 3)) (ht : (pc : Int) + off = (tgt : Int)) (kt : y ≤ x → xt_X E cx Z k n tgt lo st S) (kf : ¬ (y ≤ x) → xt_X E cx Z k n (pc + 3) lo st S) : xt_X E cx Z k n pc lo (.int y :: .int x :: st) S := fun H locs ls h1 h2 h3 => lv_icmp_ge C.1 C.2.1 d ht (fun h9 => kt h9 H locs ls h1 h2 h3) (fun h9 => kf h9 H locs ls h1 h2 h3)
theorem xt_if_gt (C : xt_Ok own cc nL ret rm E cx) {x : Int32} {off : Int} {tgt : Nat} (d : decode cc pc = .ok (.ifCond .gt off, 3)) (ht : (pc : Int) + off = (tgt : Int)) (kt : 0 < x → xt_X E cx Z k n tgt lo st S) (kf : ¬ (0 < x) → xt_X E cx Z k n (pc + 3) lo st S) : xt_X E cx Z k n pc lo (.int x :: st) S := fun H locs ls h1 h2 h3 => lv_if_gt C.1 C.2.1 d ht (fun h9 => kt h9 H locs ls h1 h2 h3) (fun h9 => kf h9 H locs ls h1 h2 h3)
theorem xt_icmp_gt (C : xt_Ok own cc nL ret rm E cx) {x y : Int32} {off : Int} {tgt : Nat} (d : decode cc pc = .ok (.if_icmp .gt off, 3)) (ht : (pc : Int) + off = (tgt : Int)) (kt : y < x → xt_X E cx Z k n tgt lo st S) (kf : ¬ (y < x) → xt_X E cx Z k n (pc + 3) lo st S) : xt_X E cx Z k n pc lo (.int y :: .int x :: st) S := fun H locs ls h1 h2 h3 => lv_icmp_gt C.1 C.2.1 d ht (fun h9 => kt h9 H locs ls h1 h2 h3) (fun h9 => kf h9 H locs ls h1 h2 h3)
theorem xt_if_le (C : xt_Ok own cc nL ret rm E cx) {x : Int32} {off : Int} {tgt : Nat} (d : decode cc pc = .ok (.ifCond .le off, 3)) (ht : (pc : Int) + off = (tgt : Int)) (kt : x ≤ 0 → xt_X E cx Z k n tgt lo st S) (kf : ¬ (x ≤ 0) → xt_X E cx Z k n (pc + 3) lo st S) : xt_X E cx Z k n pc lo (.int x :: st) S := fun H locs ls h1 h2 h3 => lv_if_le C.1 C.2.1 d ht (fun h9 => kt h9 H locs ls h1 h2 h3) (fun h9 => kf h9 H locs ls h1 h2 h3)
theorem xt_icmp_le (C : xt_Ok own cc nL ret rm E cx) {x y : Int32} {off : Int} {tgt : Nat} (d : decode cc pc = .ok (.if_icmp .le off, 3)) (ht : (pc : Int) + off = (tgt : Int)) (kt : x ≤ y → xt_X E cx Z k n tgt lo st S) (kf : ¬ (x ≤ y) → xt_X E cx Z k n (pc + 3) lo st S) : xt_X E cx Z k n pc lo (.int y :: .int x :: st) S := fun H locs ls h1 h2 h3 => lv_icmp_le C.1 C.2.1 d ht (fun h9 => kt h9 H locs ls h1 h2 h3) (fun h9 => kf h9 H locs ls h1 h2 h3)
theorem xt_goto (C : xt_Ok own cc nL ret rm E cx) {off : Int} {tgt : Nat} (d : decode cc pc = .ok (.goto off, 3)) (ht : (pc : Int) + off = (tgt : Int)) (kk : xt_X E cx Z k n tgt lo st S) : xt_X E cx Z k n pc lo st S := fun H locs ls h1 h2 h3 => lv_goto C.1 C.2.1 d ht (kk H locs ls h1 h2 h3)
theorem xt_ifnull (C : xt_Ok own cc nL ret rm E cx) {x : Nat} {off : Int} (d : decode cc pc = .ok (.ifnull off, 3)) (kk : xt_X E cx Z k n (pc + 3) lo st S) : xt_X E cx Z k n pc lo (.ref x :: st) S := fun H locs ls h1 h2 h3 => lv_ifnull C.1 C.2.1 d (kk H locs ls h1 h2 h3)
theorem xt_ifnullN (C : xt_Ok own cc nL ret rm E cx) {off : Int} {tgt : Nat} (d : decode cc pc = .ok (.ifnull off, 3)) (ht : (pc : Int) + off = (tgt : Int)) (kk : xt_X E cx Z k n tgt lo st S) : xt_X E cx Z k n pc lo (.null :: st) S := fun H locs ls h1 h2 h3 => lv_ifnullN C.1 C.2.1 d ht (kk H locs ls h1 h2 h3)
theorem xt_lookup (C : xt_Ok own cc nL ret rm E cx) {dflt : Int} {ps : Array (Int × Int)} {len : Nat} {x : Int32} {off : Int} {tgt : Nat} (d : decode cc pc = .ok (.lookupswitch dflt ps, len)) (hp : (ps.toList.zip (ps.toList.drop 1)).all (fun (a, next) => a.1 < next.1) = true) (ho : Op.lookupswitch.offset ps.toList dflt x.toInt = off) (ht : (pc : Int) + off = (tgt : Int)) (kk : xt_X E cx Z k n tgt lo st S) : xt_X E cx Z k n pc lo (.int x :: st) S := fun H locs ls h1 h2 h3 => lv_lookup C.1 C.2.1 d hp ho ht (kk H locs ls h1 h2 h3)
theorem xt_tabIn (C : xt_Ok own cc nL ret rm E cx) {dflt lo9 hi9 : Int} {offs : Array Int} {len : Nat} {x : Int32} {off : Int} {tgt : Nat} (d : decode cc pc = .ok (.tableswitch dflt lo9 hi9 offs, len)) (g1 : ¬ x.toInt < lo9) (g2 : ¬ hi9 < x.toInt) (ho : offs[(x.toInt - lo9).toNat]? = some off) (ht : (pc : Int) + off = (tgt : Int)) (kk : xt_X E cx Z k n tgt lo st S) : xt_X E cx Z k n pc lo (.int x :: st) S := fun H locs ls h1 h2 h3 => lv_tableIn C.1 C.2.1 d g1 g2 ho ht (kk H locs ls h1 h2 h3)
theorem xt_tabOut (C : xt_Ok own cc nL ret rm E cx) {dflt lo9 hi9 : Int} {offs : Array Int} {len : Nat} {x : Int32} {tgt : Nat} (d : decode cc pc = .ok (.tableswitch dflt lo9 hi9 offs, len)) (g1 : x.toInt < lo9 ∨ hi9 < x.toInt) (ht : (pc : Int) + dflt = (tgt : Int)) (kk : xt_X E cx Z k n tgt lo st S) : xt_X E cx Z k n pc lo (.int x :: st) S := fun H locs ls h1 h2 h3 => lv_tableOut C.1 C.2.1 d g1 ht (kk H locs ls h1 h2 h3)
theorem xt_mmin (C : xt_Ok own cc nL ret rm E cx) {x y : Int32} {index : Nat} (hlk : Cond.methodLink own index Lib.Math.min.name ∈ xt_T) (hw : Cond.static Lib.Math.min.name ∈ xt_T ∧ Cond.initialized "java/lang/Math" ∈ xt_T ∧ Cond.code Lib.Math.min.name Lib.Math.min.code 2 (some .int) ∈ xt_T) (hlo : lo.length = nL) (hr : 1 ≤ rm.frames ∧ (st.map fun v => v.category).sum + 13 ≤ rm.locals ∧ k ≤ rm.cells ∧ n ≤ rm.slots) (d : decode cc pc = .ok (.invokestatic index, 3)) (kk : xt_X E cx Z k n (pc + 3) lo (.int (if y < x then y else x) :: st) S) : xt_X E cx Z k n pc lo (.int y :: .int x :: st) S := by
  intro H locs ls h1 h2 h3
  obtain ⟨hx, hb, hml, hown, hts, -, hR, -⟩ := C
  subst hR
  exact va_mmin hx hb (hml.trans (hlo.symm.trans h3.1.symm)) hown (hts _ hlk) (hts _ hw.1) (hts _ hw.2.1) (hts _ hw.2.2) hr.1 hr.2.1 hr.2.2.1 hr.2.2.2 d (kk H locs ls h1 h2 h3)
theorem xt_mmax (C : xt_Ok own cc nL ret rm E cx) {x y : Int32} {index : Nat} (hlk : Cond.methodLink own index Lib.Math.max.name ∈ xt_T) (hw : Cond.static Lib.Math.max.name ∈ xt_T ∧ Cond.initialized "java/lang/Math" ∈ xt_T ∧ Cond.code Lib.Math.max.name Lib.Math.max.code 2 (some .int) ∈ xt_T) (hlo : lo.length = nL) (hr : 1 ≤ rm.frames ∧ (st.map fun v => v.category).sum + 13 ≤ rm.locals ∧ k ≤ rm.cells ∧ n ≤ rm.slots) (d : decode cc pc = .ok (.invokestatic index, 3)) (kk : xt_X E cx Z k n (pc + 3) lo (.int (if x < y then y else x) :: st) S) : xt_X E cx Z k n pc lo (.int y :: .int x :: st) S := by
  intro H locs ls h1 h2 h3
  obtain ⟨hx, hb, hml, hown, hts, -, hR, -⟩ := C
  subst hR
  exact va_mmax hx hb (hml.trans (hlo.symm.trans h3.1.symm)) hown (hts _ hlk) (hts _ hw.1) (hts _ hw.2.1) (hts _ hw.2.2) hr.1 hr.2.1 hr.2.2.1 hr.2.2.2 d (kk H locs ls h1 h2 h3)
theorem xt_mabs (C : xt_Ok own cc nL ret rm E cx) {x : Int32} {index : Nat} (hlk : Cond.methodLink own index Lib.Math.abs.name ∈ xt_T) (hw : Cond.static Lib.Math.abs.name ∈ xt_T ∧ Cond.initialized "java/lang/Math" ∈ xt_T ∧ Cond.code Lib.Math.abs.name Lib.Math.abs.code 1 (some .int) ∈ xt_T) (hlo : lo.length = nL) (hr : 1 ≤ rm.frames ∧ (st.map fun v => v.category).sum + 13 ≤ rm.locals ∧ k ≤ rm.cells ∧ n ≤ rm.slots) (d : decode cc pc = .ok (.invokestatic index, 3)) (kk : xt_X E cx Z k n (pc + 3) lo (.int (if 0 ≤ x then x else 0 - x) :: st) S) : xt_X E cx Z k n pc lo (.int x :: st) S := by
  intro H locs ls h1 h2 h3
  obtain ⟨hx, hb, hml, hown, hts, -, hR, -⟩ := C
  subst hR
  exact va_mabs hx hb (hml.trans (hlo.symm.trans h3.1.symm)) hown (hts _ hlk) (hts _ hw.1) (hts _ hw.2.1) (hts _ hw.2.2) hr.1 hr.2.1 hr.2.2.1 hr.2.2.2 d (kk H locs ls h1 h2 h3)
theorem xt_iret {Q : Option Value → xt_St → Prop} {k9 n9 : Nat} (C : xt_Ok own cc nL (some .int) rm E cx) {x : Int32} (d : decode cc pc = .ok (.ireturn, 1)) (hk : k ≤ k9 ∧ n ≤ n9) (hq : Q (some (.int x)) S) : xt_X E cx (xt_ZM E cx k9 n9 Q) k n pc lo [.int x] S := fun H locs ls h1 h2 h3 => W.widen hk.1 hk.2 (W.iret C.1 C.2.1 C.2.2.2.2.2.2.2.2 (fun t ht hW => ⟨⟨_, S, rfl, hq, ht.symm ▸ h1⟩, h2.F ht⟩) h2.2.2 d (hlocks := C.2.2.2.2.2.2.2.1))
theorem xt_dret {Q : Option Value → xt_St → Prop} {k9 n9 : Nat} (C : xt_Ok own cc nL (some .double) rm E cx) {x : UInt64} (d : decode cc pc = .ok (.dreturn, 1)) (hk : k ≤ k9 ∧ n ≤ n9) (hq : Q (some (.double x)) S) : xt_X E cx (xt_ZM E cx k9 n9 Q) k n pc lo [.double x] S := fun H locs ls h1 h2 h3 => W.widen hk.1 hk.2 (W.dret C.1 C.2.1 C.2.2.2.2.2.2.2.2 (fun t ht hW => ⟨⟨_, S, rfl, hq, ht.symm ▸ h1⟩, h2.F ht⟩) h2.2.2 d (hlocks := C.2.2.2.2.2.2.2.1))
theorem xt_zret {Q : Option Value → xt_St → Prop} {k9 n9 : Nat} {ty : FieldType} (C : xt_Ok own cc nL (some ty) rm E cx) {x : Int32} (d : decode cc pc = .ok (.ireturn, 1)) (hn : narrow ty (.int x) = .int x) (hk : k ≤ k9 ∧ n ≤ n9) (hq : Q (some (.int x)) S) : xt_X E cx (xt_ZM E cx k9 n9 Q) k n pc lo [.int x] S := fun H locs ls h1 h2 h3 => W.widen hk.1 hk.2 (W.zret C.1 C.2.1 C.2.2.2.2.2.2.2.2 hn (fun t ht hW => ⟨⟨_, S, rfl, hq, ht.symm ▸ h1⟩, h2.F ht⟩) h2.2.2 d (hlocks := C.2.2.2.2.2.2.2.1))
theorem xt_vret {Q : Option Value → xt_St → Prop} {k9 n9 : Nat} (C : xt_Ok own cc nL none rm E cx) (d : decode cc pc = .ok (.return_, 1)) (hk : k ≤ k9 ∧ n ≤ n9) (hq : Q none S) : xt_X E cx (xt_ZM E cx k9 n9 Q) k n pc lo [] S := fun H locs ls h1 h2 h3 => W.widen hk.1 hk.2 (W.vret C.1 C.2.1 C.2.2.2.2.2.2.2.2 (fun t ht hW => ⟨⟨_, S, rfl, hq, ht.symm ▸ h1⟩, h2.F ht⟩) h2.2.2 d (hlocks := C.2.2.2.2.2.2.2.1))
theorem xt_aret {Q : Option Value → xt_St → Prop} {k9 n9 : Nat} {ty : FieldType} {v : Value} (C : xt_Ok own cc nL (some ty) rm E cx) (hrt : (∃ z, ty = .object z) ∨ ∃ t, ty = .array t) (hv : v = .null ∨ ∃ a, v = .ref a) (d : decode cc pc = .ok (.areturn, 1)) (hk : k ≤ k9 ∧ n ≤ n9) (hq : Q (some v) S) : xt_X E cx (xt_ZM E cx k9 n9 Q) k n pc lo [v] S := fun H locs ls h1 h2 h3 => W.widen hk.1 hk.2 (W.aret C.1 C.2.1 C.2.2.2.2.2.2.2.2 hrt hv (fun t ht hW => ⟨⟨_, S, rfl, hq, ht.symm ▸ h1⟩, h2.F ht⟩) h2.2.2 d (hlocks := C.2.2.2.2.2.2.2.1))
/-- in a body that may throw: an ordinary end -/
theorem xt_ofM {Q : Option Value → xt_St → Prop} {QX : String → xt_St → Prop} {k9 n9 : Nat} (kk : xt_X E cx (xt_ZM E cx k9 n9 Q) k n pc lo st S) : xt_X E cx (xt_ZX E cx k9 n9 Q QX) k n pc lo st S := fun H locs ls h1 h2 h3 => vx_ret (kk H locs ls h1 h2 h3)
theorem xt_get (C : xt_Ok own cc nL ret rm E cx) {ci i f N index : Nat} {Cn : String} {T : u_T} {fs : List Value} {v : Value} (hu : ∀ w ∈ u_ws Cn T N, w ∈ xt_T) (hcl : vwCl[ci]? = some (Cn, T, N)) (hi : i < xt_NC) (hc : xt_cell E S i = .inr (ci, fs)) (hf : f < N) (hlk : Cond.fieldLink own index (T f).1 (T f).2.1 (T f).2.2.1 ∈ xt_T) (hv : fs[f]? = some v) (d : decode cc pc = .ok (.getfield index, 3)) (kk : xt_X E cx Z k n (pc + 3) lo (v :: st) S) : xt_X E cx Z k n pc lo (.ref (E.1 i) :: st) S := by
  intro H locs ls h1 h2 h3
  have hP : va_P E.2.2.1 vwCl (xt_wl E S) H := h1
  have he : (xt_wl E S)[i]? = some (E.1 i, .inr (ci, fs)) := by rw [xt_wl_at hi, hc]
  exact va_get C.1 C.2.1 C.2.2.2.2.1 hu C.2.2.2.1 C.2.2.2.2.2.1.2.1 hP i he hcl f hf (C.2.2.2.2.1 _ hlk) (fun _ h9 => h9) hv d (kk H locs ls h1 h2 h3)
theorem xt_getN (C : xt_Ok own cc nL ret rm E cx) {ci i f N index : Nat} {Cn : String} {T : u_T} {fs : List Value} {v : Value} {host : String} (hu : ∀ w ∈ u_ws Cn T N, w ∈ xt_T) (hcl : vwCl[ci]? = some (Cn, T, N)) (hi : i < xt_NC) (hc : xt_cell E S i = .inr (ci, fs)) (hf : f < N) (hlk : Cond.fieldLinkNest own index (T f).1 (T f).2.1 (T f).2.2.1 host ∈ xt_nw) (hv : fs[f]? = some v) (d : decode cc pc = .ok (.getfield index, 3)) (kk : xt_X E cx Z k n (pc + 3) lo (v :: st) S) : xt_X E cx Z k n pc lo (.ref (E.1 i) :: st) S := by
  intro H locs ls h1 h2 h3
  have hP : va_P E.2.2.1 vwCl (xt_wl E S) H := h1
  have he : (xt_wl E S)[i]? = some (E.1 i, .inr (ci, fs)) := by rw [xt_wl_at hi, hc]
  exact va_getN C.1 C.2.1 C.2.2.2.2.1 hu C.2.2.2.1 C.2.2.2.2.2.1.2.1 hP i he hcl f hf (va_Nw.use rfl (C.2.2.2.2.2.1.2.2.1 _ hlk)) (fun _ h9 => h9) hv d (kk H locs ls h1 h2 h3)
theorem xt_put (C : xt_Ok own cc nL ret rm E cx) {ci i f N index : Nat} {Cn : String} {T : u_T} {fs : List Value} {x : Int32} (hu : ∀ w ∈ u_ws Cn T N, w ∈ xt_T) (hcl : vwCl[ci]? = some (Cn, T, N)) (hi : i < xt_NC) (hc : xt_cell E S i = .inr (ci, fs)) (hf : f < N) (ty0 : Nat → FieldType) (hty : ∀ j, j < N → parseFieldDescriptor (T j).2.2.1 = some (ty0 j)) (hnm : ∀ a, a < N → ∀ b, b < N → a ≠ b → (T a).2.1 ≠ (T b).2.1) (hlk : Cond.fieldLink own index (T f).1 (T f).2.1 (T f).2.2.1 ∈ xt_T) (hfin : (T f).2.2.2 = false) {ty : FieldType} (hd : parseFieldDescriptor (T f).2.2.1 = some ty) (hn : narrow ty (.int x) = .int x) (hft : fits ty (.int x) = true) (hl : f < fs.length) (hc' : xt_cell E (xt_sN S i f x) i = .inr (ci, fs.set f (.int x))) (d : decode cc pc = .ok (.putfield index, 3)) (kk : xt_X E cx Z k n (pc + 3) lo st (xt_sN S i f x)) : xt_X E cx Z k n pc lo (.int x :: .ref (E.1 i) :: st) S := by
  intro H locs ls h1 h2 h3
  have hP : va_P E.2.2.1 vwCl (xt_wl E S) H := h1
  have he : (xt_wl E S)[i]? = some (E.1 i, .inr (ci, fs)) := by rw [xt_wl_at hi, hc]
  exact va_put C.1 C.2.1 C.2.2.2.2.1 hu ty0 hty hnm C.2.2.2.1 C.2.2.2.2.2.1.2.1 hP (xt_wl_D S C.2.2.2.2.2.1.1) h2 i he hcl f hf (C.2.2.2.2.1 _ hlk) (fun _ h9 => h9) hfin hd hn hft hl d (fun H1 locs1 g1 _ g3 => kk H1 locs1 ls (xt_Lk_set hi g1 hc' (fun j hj => xt_sN_cell E S hj)) g3 h3)
theorem xt_putN (C : xt_Ok own cc nL ret rm E cx) {ci i f N index : Nat} {Cn : String} {T : u_T} {fs : List Value} {x : Int32} (hu : ∀ w ∈ u_ws Cn T N, w ∈ xt_T) (hcl : vwCl[ci]? = some (Cn, T, N)) (hi : i < xt_NC) (hc : xt_cell E S i = .inr (ci, fs)) (hf : f < N) (ty0 : Nat → FieldType) (hty : ∀ j, j < N → parseFieldDescriptor (T j).2.2.1 = some (ty0 j)) (hnm : ∀ a, a < N → ∀ b, b < N → a ≠ b → (T a).2.1 ≠ (T b).2.1) {host : String} (hlk : Cond.fieldLinkNest own index (T f).1 (T f).2.1 (T f).2.2.1 host ∈ xt_nw) (hfin : (T f).2.2.2 = false) {ty : FieldType} (hd : parseFieldDescriptor (T f).2.2.1 = some ty) (hn : narrow ty (.int x) = .int x) (hft : fits ty (.int x) = true) (hl : f < fs.length) (hc' : xt_cell E (xt_sN S i f x) i = .inr (ci, fs.set f (.int x))) (d : decode cc pc = .ok (.putfield index, 3)) (kk : xt_X E cx Z k n (pc + 3) lo st (xt_sN S i f x)) : xt_X E cx Z k n pc lo (.int x :: .ref (E.1 i) :: st) S := by
  intro H locs ls h1 h2 h3
  have hP : va_P E.2.2.1 vwCl (xt_wl E S) H := h1
  have he : (xt_wl E S)[i]? = some (E.1 i, .inr (ci, fs)) := by rw [xt_wl_at hi, hc]
  exact va_putN C.1 C.2.1 C.2.2.2.2.1 hu ty0 hty hnm C.2.2.2.1 C.2.2.2.2.2.1.2.1 hP (xt_wl_D S C.2.2.2.2.2.1.1) h2 i he hcl f hf (va_Nw.use rfl (C.2.2.2.2.2.1.2.2.1 _ hlk)) (fun _ h9 => h9) hfin hd hn hft hl d (fun H1 locs1 g1 _ g3 => kk H1 locs1 ls (xt_Lk_set hi g1 hc' (fun j hj => xt_sN_cell E S hj)) g3 h3)
/-- cell i is an int array (char, boolean: by the class) of that length -/
def xt_ar (E : xt_Ev) (cs i len : Nat) : Prop := ∀ S, xt_cell E S i = .inl (E.2.2.2.1 cs, len, .inl (S.2.1 i))
def xt_arB (E : xt_Ev) (i len : Nat) : Prop := ∀ S, xt_cell E S i = .inl (E.2.2.2.1 1, len, .inr (.inl (S.2.2.1 i)))
def xt_arD (E : xt_Ev) (i len : Nat) : Prop := ∀ S, xt_cell E S i = .inl (E.2.2.2.1 2, len, .inr (.inr (.inr (.inl (S.2.2.2 i)))))
theorem xt_iald (C : xt_Ok own cc nL ret rm E cx) {i len : Nat} (hi : i < xt_NC) (ha : xt_ar E 0 i len) {j : Int32} {v : Int32} (hin : vp_in j len) (hv : S.2.1 i j.toNatClampNeg = v) (d : decode cc pc = .ok (.iaload, 1)) (kk : xt_X E cx Z k n (pc + 1) lo (.int v :: st) S) : xt_X E cx Z k n pc lo (.int j :: .ref (E.1 i) :: st) S := by
  intro H locs ls h1 h2 h3
  have hP : va_P E.2.2.1 vwCl (xt_wl E S) H := h1
  have he := (xt_wl_at (E := E) (S := S) hi)
  rw [ha] at he
  subst hv
  exact va_iald C.1 C.2.1 C.2.2.2.2.2.1.2.1 hP i 0 he rfl hin d (kk H locs ls h1 h2 h3)
theorem xt_cald (C : xt_Ok own cc nL ret rm E cx) {i len : Nat} (hi : i < xt_NC) (ha : xt_ar E 3 i len) {j : Int32} {v : Int32} (hin : vp_in j len) (hv : S.2.1 i j.toNatClampNeg = v) (d : decode cc pc = .ok (.caload, 1)) (kk : xt_X E cx Z k n (pc + 1) lo (.int v :: st) S) : xt_X E cx Z k n pc lo (.int j :: .ref (E.1 i) :: st) S := by
  intro H locs ls h1 h2 h3
  have hP : va_P E.2.2.1 vwCl (xt_wl E S) H := h1
  have he := (xt_wl_at (E := E) (S := S) hi)
  rw [ha] at he
  subst hv
  exact va_cald C.1 C.2.1 C.2.2.2.2.2.1.2.1 hP i 3 he rfl hin d (kk H locs ls h1 h2 h3)
theorem xt_zald (C : xt_Ok own cc nL ret rm E cx) {i len : Nat} (hi : i < xt_NC) (ha : xt_ar E 4 i len) {j : Int32} {v : Int32} (hin : vp_in j len) (hv : S.2.1 i j.toNatClampNeg = v) (d : decode cc pc = .ok (.baload, 1)) (kk : xt_X E cx Z k n (pc + 1) lo (.int v :: st) S) : xt_X E cx Z k n pc lo (.int j :: .ref (E.1 i) :: st) S := by
  intro H locs ls h1 h2 h3
  have hP : va_P E.2.2.1 vwCl (xt_wl E S) H := h1
  have he := (xt_wl_at (E := E) (S := S) hi)
  rw [ha] at he
  subst hv
  exact va_zald C.1 C.2.1 C.2.2.2.2.2.1.2.1 hP i 4 he rfl hin d (kk H locs ls h1 h2 h3)
theorem xt_lald (C : xt_Ok own cc nL ret rm E cx) {i len : Nat} (hi : i < xt_NC) (ha : xt_arB E i len) {j : Int32} {v : Int64} (hin : vp_in j len) (hv : S.2.2.1 i j.toNatClampNeg = v) (d : decode cc pc = .ok (.laload, 1)) (kk : xt_X E cx Z k n (pc + 1) lo (.long v :: st) S) : xt_X E cx Z k n pc lo (.int j :: .ref (E.1 i) :: st) S := by
  intro H locs ls h1 h2 h3
  have hP : va_P E.2.2.1 vwCl (xt_wl E S) H := h1
  have he := (xt_wl_at (E := E) (S := S) hi)
  rw [ha] at he
  subst hv
  exact va_lald C.1 C.2.1 C.2.2.2.2.2.1.2.1 hP i 1 he rfl hin d (kk H locs ls h1 h2 h3)
theorem xt_dald (C : xt_Ok own cc nL ret rm E cx) {i len : Nat} (hi : i < xt_NC) (ha : xt_arD E i len) {j : Int32} {v : UInt64} (hin : vp_in j len) (hv : S.2.2.2 i j.toNatClampNeg = v) (d : decode cc pc = .ok (.daload, 1)) (kk : xt_X E cx Z k n (pc + 1) lo (.double v :: st) S) : xt_X E cx Z k n pc lo (.int j :: .ref (E.1 i) :: st) S := by
  intro H locs ls h1 h2 h3
  have hP : va_P E.2.2.1 vwCl (xt_wl E S) H := h1
  have he := (xt_wl_at (E := E) (S := S) hi)
  rw [ha] at he
  subst hv
  exact va_dald C.1 C.2.1 C.2.2.2.2.2.1.2.1 hP i 2 he rfl hin d (kk H locs ls h1 h2 h3)
theorem xt_iast (C : xt_Ok own cc nL ret rm E cx) {i len : Nat} (hi : i < xt_NC) (ha : xt_ar E 0 i len) {j x : Int32} (hin : vp_in j len) (d : decode cc pc = .ok (.iastore, 1)) (kk : xt_X E cx Z k n (pc + 1) lo st (xt_sA S i (upd (S.2.1 i) j.toNatClampNeg x))) : xt_X E cx Z k n pc lo (.int x :: .int j :: .ref (E.1 i) :: st) S := by
  intro H locs ls h1 h2 h3
  have hP : va_P E.2.2.1 vwCl (xt_wl E S) H := h1
  have he := (xt_wl_at (E := E) (S := S) hi)
  rw [ha] at he
  exact va_iast C.1 C.2.1 C.2.2.2.2.2.1.2.1 hP (xt_wl_D S C.2.2.2.2.2.1.1) h2 i 0 he rfl hin d (fun H1 locs1 g1 _ g3 => kk H1 locs1 ls (xt_Lk_set hi g1 (by rw [ha]; simp [xt_sA]) (fun j hj => xt_sA_cell E S hj)) g3 h3)
theorem xt_cast (C : xt_Ok own cc nL ret rm E cx) {i len : Nat} (hi : i < xt_NC) (ha : xt_ar E 3 i len) {j x : Int32} (hin : vp_in j len) (d : decode cc pc = .ok (.castore, 1)) (kk : xt_X E cx Z k n (pc + 1) lo st (xt_sA S i (upd (S.2.1 i) j.toNatClampNeg (vp_nar .char x)))) : xt_X E cx Z k n pc lo (.int x :: .int j :: .ref (E.1 i) :: st) S := by
  intro H locs ls h1 h2 h3
  have hP : va_P E.2.2.1 vwCl (xt_wl E S) H := h1
  have he := (xt_wl_at (E := E) (S := S) hi)
  rw [ha] at he
  exact va_cast C.1 C.2.1 C.2.2.2.2.2.1.2.1 hP (xt_wl_D S C.2.2.2.2.2.1.1) h2 i 3 he rfl hin d (fun H1 locs1 g1 _ g3 => kk H1 locs1 ls (xt_Lk_set hi g1 (by rw [ha]; simp [xt_sA]) (fun j hj => xt_sA_cell E S hj)) g3 h3)
theorem xt_zast (C : xt_Ok own cc nL ret rm E cx) {i len : Nat} (hi : i < xt_NC) (ha : xt_ar E 4 i len) {j x : Int32} (hin : vp_in j len) (d : decode cc pc = .ok (.bastore, 1)) (kk : xt_X E cx Z k n (pc + 1) lo st (xt_sA S i (upd (S.2.1 i) j.toNatClampNeg (vp_nar .boolean x)))) : xt_X E cx Z k n pc lo (.int x :: .int j :: .ref (E.1 i) :: st) S := by
  intro H locs ls h1 h2 h3
  have hP : va_P E.2.2.1 vwCl (xt_wl E S) H := h1
  have he := (xt_wl_at (E := E) (S := S) hi)
  rw [ha] at he
  exact va_zast C.1 C.2.1 C.2.2.2.2.2.1.2.1 hP (xt_wl_D S C.2.2.2.2.2.1.1) h2 i 4 he rfl hin d (fun H1 locs1 g1 _ g3 => kk H1 locs1 ls (xt_Lk_set hi g1 (by rw [ha]; simp [xt_sA]) (fun j hj => xt_sA_cell E S hj)) g3 h3)
theorem xt_last (C : xt_Ok own cc nL ret rm E cx) {i len : Nat} (hi : i < xt_NC) (ha : xt_arB E i len) {j : Int32} {x : Int64} (hin : vp_in j len) (d : decode cc pc = .ok (.lastore, 1)) (kk : xt_X E cx Z k n (pc + 1) lo st (xt_sB S i (vp_updL (S.2.2.1 i) j.toNatClampNeg x))) : xt_X E cx Z k n pc lo (.long x :: .int j :: .ref (E.1 i) :: st) S := by
  intro H locs ls h1 h2 h3
  have hP : va_P E.2.2.1 vwCl (xt_wl E S) H := h1
  have he := (xt_wl_at (E := E) (S := S) hi)
  rw [ha] at he
  exact va_last C.1 C.2.1 C.2.2.2.2.2.1.2.1 hP (xt_wl_D S C.2.2.2.2.2.1.1) h2 i 1 he rfl hin d (fun H1 locs1 g1 _ g3 => kk H1 locs1 ls (xt_Lk_set hi g1 (by rw [ha]; simp [xt_sB]) (fun j hj => xt_sB_cell E S hj)) g3 h3)
theorem xt_dast (C : xt_Ok own cc nL ret rm E cx) {i len : Nat} (hi : i < xt_NC) (ha : xt_arD E i len) {j : Int32} {x : UInt64} (hin : vp_in j len) (d : decode cc pc = .ok (.dastore, 1)) (kk : xt_X E cx Z k n (pc + 1) lo st (xt_sD S i (vf_upd (S.2.2.2 i) j.toNatClampNeg x))) : xt_X E cx Z k n pc lo (.double x :: .int j :: .ref (E.1 i) :: st) S := by
  intro H locs ls h1 h2 h3
  have hP : va_P E.2.2.1 vwCl (xt_wl E S) H := h1
  have he := (xt_wl_at (E := E) (S := S) hi)
  rw [ha] at he
  exact va_dast C.1 C.2.1 C.2.2.2.2.2.1.2.1 hP (xt_wl_D S C.2.2.2.2.2.1.1) h2 i 2 he rfl hin d (fun H1 locs1 g1 _ g3 => kk H1 locs1 ls (xt_Lk_set hi g1 (by rw [ha]; simp [xt_sD]) (fun j hj => xt_sD_cell E S hj)) g3 h3)
theorem xt_alen (C : xt_Ok own cc nL ret rm E cx) {i cs : Nat} (hi : i < xt_NC) {x : vp_A} (hcs : cs < 6) (ha : xt_cell E S i = .inl (E.2.2.2.1 cs, x)) {v : Int32} (hv : Int32.ofNat x.1 = v) (d : decode cc pc = .ok (.arraylength, 1)) (kk : xt_X E cx Z k n (pc + 1) lo (.int v :: st) S) : xt_X E cx Z k n pc lo (.ref (E.1 i) :: st) S := by
  intro H locs ls h1 h2 h3
  have hP : va_P E.2.2.1 vwCl (xt_wl E S) H := h1
  have he := (xt_wl_at (E := E) (S := S) hi)
  rw [ha] at he
  obtain ⟨ty, hty⟩ : ∃ ty, (xt_ty E)[cs]? = some (E.2.2.2.1 cs, ty) := by
    match cs, hcs with
    | 0, _ => exact ⟨_, rfl⟩
    | 1, _ => exact ⟨_, rfl⟩
    | 2, _ => exact ⟨_, rfl⟩
    | 3, _ => exact ⟨_, rfl⟩
    | 4, _ => exact ⟨_, rfl⟩
    | 5, _ => exact ⟨_, rfl⟩
  exact va_alen C.1 C.2.1 C.2.2.2.2.2.1.2.1 hP i cs he hty hv d (kk H locs ls h1 h2 h3)
theorem xt_aald (C : xt_Ok own cc nL ret rm E cx) {j : Int32} (hin : vp_in j 8) {v : Nat} (hv : E.1 (9 + 3 * j.toNatClampNeg) = v) (d : decode cc pc = .ok (.aaload, 1)) (kk : xt_X E cx Z k n (pc + 1) lo (.ref v :: st) S) : xt_X E cx Z k n pc lo (.int j :: .ref (E.1 8) :: st) S := by
  intro H locs ls h1 h2 h3
  have hP : va_P E.2.2.1 vwCl (xt_wl E S) H := h1
  have he := (xt_wl_at (E := E) (S := S) (i := 8) (by decide))
  rw [xt_cl8] at he
  subst hv
  exact va_aldq C.1 C.2.1 C.2.2.2.2.2.1.2.1 hP 8 5 he rfl hin d (kk H locs ls h1 h2 h3)
end XT4
/-! CALLS -/
section XT5
theorem xt_good {s : State} {args : Array Value} (hts : ∀ w ∈ xt_T, w.before args s = true) {y : MethodName} {cy : ByteArray} {ny : Nat} {rt : Option FieldType} (h : Cond.code y cy ny rt ∈ xt_T) : ∀ w ∈ (Cond.code y cy ny rt :: xt_T), ∀ (a' : Array Value) (U : State), s.WarmedH U.vm → w.before a' U = true := by
  intro w hw a' U hW
  have hm : w ∈ xt_T := by
    rcases List.mem_cons.mp hw with rfl | h9
    · exact h
    · exact h9
  exact word_at hW (good_of_word (xt_T_good hm)) (hts w hm)
theorem xt_ini {s : State} {c : String} {args : Array Value} (h : (Cond.initialized c).before args s = true) : True := trivial
variable {E : xt_Ev} {cx : xt_Cx} {Z : State → Prop} {k n pc nL : Nat} {lo : List (Option Value)} {st st0 : List Value} {S : xt_St} {own : String} {cc : ByteArray} {ret : Option FieldType} {rm : Room}
variable {y : MethodName} {cy : ByteArray} {ny fr lw k1 n1 i index : Nat} {rt : Option FieldType} {As : List Value} {Q : Option Value → xt_St → Prop}
/-- behind a call: what came back -/
theorem xt_after {H : Heap} {locs : List Loc} {ls : Array Slot} {mc ms : Nat} {a : Array Value} {g : JFrame} (hg : g = F0 cx.2.2.2.2.2.1 pc ls st0) (hr : va_Run cx.1 cx.2.1 cx.2.2.1 cx.2.2.2.1 cx.2.2.2.2.1 cx.2.2.2.2.2.1 cx.2.2.2.2.2.2.1 cx.2.2.2.2.2.2.2.1 cx.2.2.2.2.2.2.2.2.1 cx.2.2.2.2.2.2.2.2.2 H locs k n mc ms g st (xt_Qr E Q a) (xt_Af E)) (h2 : va_S (xt_Af E) cx.2.2.2.2.1.heap H locs) (h3 : xt_lh ls lo)
    (kk : ∀ v S', Q v S' → xt_X E cx Z (k + mc) (n + ms) (pc + 3) lo (v.toList ++ st) S') : xt_W cx H locs k n Z g := by
  subst hg
  intro T hT X
  obtain ⟨v, st₀, t, T', L, h0, X', hL, e1, e2, ⟨⟨v', S', hv, hq, hLk⟩, hz, hk⟩, hst⟩ := hr T hT X
  cases hv
  rw [h0] at hz hk
  obtain ⟨t2, a1, b1⟩ := kk v S' hq T'.heap (locs ++ L) ls (by rw [e1]; exact hLk)
    ⟨Nat.le_trans h2.1 (by rw [e1]; exact hz), fun q g1 g2 => by rw [e1, hk q (Nat.lt_of_lt_of_le g1 h2.1) g2]; exact h2.2.1 q g1 g2, fun q hq => by
      rcases List.mem_append.mp hq with h | h
      · exact h2.2.2 q h
      · exact hL q h⟩ h3 T' rfl X'
  exact ⟨t2, hst t2 a1, b1⟩
theorem xt_blind {av : List Value} : FrameBlind (va_Pc av (fun U => xt_Lk E S U.heap ∧ xt_Kn E U)) := fun _ _ _ _ q => ⟨q.1, q.2.1, xt_Kn_calling q.2.2⟩
theorem xt_recv {H : Heap} {ci N : Nat} {C : String} {T : u_T} {fs : List Value} (hK : va_K E.2.2.1 vwCl (xt_ty E) cx.2.2.2.2.1) (h1 : xt_Lk E S H) (hi : i < xt_NC) (hc : xt_cell E S i = .inr (ci, fs)) (hcl : vwCl[ci]? = some (C, T, N)) : ∃ cellB : Cell, H[E.1 i]? = some cellB ∧ cellB.vm.isStatics = false ∧ cx.2.2.2.2.1.vm.findClass C = some cellB.cls := by
  have hP : va_P E.2.2.1 vwCl (xt_wl E S) H := h1
  have he : (xt_wl E S)[i]? = some (E.1 i, .inr (ci, fs)) := by rw [xt_wl_at hi, hc]
  exact va_recv hK hP hcl he
theorem xt_callV {ci N : Nat} {T : u_T} {fs : List Value} (C : xt_Ok own cc nL ret rm E cx) (hm : xt_Mv y cy ny rt As.length) (hlk : Cond.methodLink own index y ∈ xt_T) (hct : xt_Ct E cx.2.1 y cy ny rt fr lw k1 n1 (.ref (E.1 i) :: As) S Q) (hs : st0 = As.reverse ++ .ref (E.1 i) :: st) (hi : i < xt_NC) (hc : xt_cell E S i = .inr (ci, fs)) (hcl : vwCl[ci]? = some (y.cls, T, N))
    (hr : fr + 1 ≤ rm.frames ∧ 8 + (ny + 11) + lw ≤ rm.locals ∧ k + k1 ≤ rm.cells ∧ n + n1 ≤ rm.slots) (hlo : lo.length = nL) (hw : (st.map fun v => v.category).sum ≤ 8) (d : decode cc pc = .ok (.invokevirtual index, 3)) (kk : ∀ v S', Q v S' → xt_X E cx Z (k + k1) (n + n1) (pc + 3) lo (v.toList ++ st) S') : xt_X E cx Z k n pc lo st0 S := by
  intro H locs ls h1 h2 h3
  obtain ⟨hx, hb, hml, hown, hts, hKn, hR, -⟩ := C
  subst hR
  refine xt_after rfl (va_runV (Ts := xt_T) (As := As) (rest := st) ⟨hx, hb, hml, hown, hts⟩ hct ⟨⟨rfl, rfl, hr.1, hr.2.1, xt_good hts hm.1, List.mem_cons_self, hts _ hm.1, hts _ hm.2.2.2.1, hm.2.2.2.2.1, fun sig h => ?_, hts _ hlk⟩, hts _ hm.2.1, hts _ hm.2.2.1⟩ ⟨xt_blind, xt_recv hKn.2.1 h1 hi hc hcl, fun U hU hW => ⟨rfl, by rw [hU]; exact h1, xt_Kn_warm hW h2 hU hKn⟩⟩ rfl rfl (h3.1.trans hlo) hs (lv_room hw) d ⟨hr.2.2.1, hr.2.2.2⟩) h2 h3 kk
  have h9 := hm.2.2.2.2.2
  rw [h] at h9
  exact (Option.some.inj h9).symm
theorem xt_callVN {ci N : Nat} {T : u_T} {fs : List Value} {host : String} (C : xt_Ok own cc nL ret rm E cx) (hm : xt_Mv y cy ny rt As.length) (hlk : Cond.methodLinkNest own index y host ∈ xt_nw) (hct : xt_Ct E cx.2.1 y cy ny rt fr lw k1 n1 (.ref (E.1 i) :: As) S Q) (hs : st0 = As.reverse ++ .ref (E.1 i) :: st) (hi : i < xt_NC) (hc : xt_cell E S i = .inr (ci, fs)) (hcl : vwCl[ci]? = some (y.cls, T, N))
    (hr : fr + 1 ≤ rm.frames ∧ 8 + (ny + 11) + lw ≤ rm.locals ∧ k + k1 ≤ rm.cells ∧ n + n1 ≤ rm.slots) (hlo : lo.length = nL) (hw : (st.map fun v => v.category).sum ≤ 8) (d : decode cc pc = .ok (.invokevirtual index, 3)) (kk : ∀ v S', Q v S' → xt_X E cx Z (k + k1) (n + n1) (pc + 3) lo (v.toList ++ st) S') : xt_X E cx Z k n pc lo st0 S := by
  intro H locs ls h1 h2 h3
  obtain ⟨hx, hb, hml, hown, hts, hKn, hR, -⟩ := C
  subst hR
  refine xt_after rfl (va_runVN (Ts := xt_T) (As := As) (rest := st) ⟨hx, hb, hml, hown, hts⟩ hct ⟨⟨⟨rfl, rfl, hr.1, hr.2.1, xt_good hts hm.1, List.mem_cons_self⟩, hts _ hm.1, hts _ hm.2.2.2.1, hm.2.2.2.2.1, fun sig h => ?_, va_Nw.use rfl (hKn.2.2.1 _ hlk)⟩, hts _ hm.2.1, hts _ hm.2.2.1⟩ ⟨xt_blind, xt_recv hKn.2.1 h1 hi hc hcl, fun U hU hW => ⟨rfl, by rw [hU]; exact h1, xt_Kn_warm hW h2 hU hKn⟩⟩ rfl rfl (h3.1.trans hlo) hs (lv_room hw) d ⟨hr.2.2.1, hr.2.2.2⟩) h2 h3 kk
  have h9 := hm.2.2.2.2.2
  rw [h] at h9
  exact (Option.some.inj h9).symm
theorem xt_callS (C : xt_Ok own cc nL ret rm E cx) (hm : xt_Ms y cy ny rt As.length) (hlk : Cond.methodLink own index y ∈ xt_T) (hct : xt_Ct E cx.2.1 y cy ny rt fr lw k1 n1 As S Q) (hs : st0 = As.reverse ++ st)
    (hr : fr + 1 ≤ rm.frames ∧ 8 + (ny + 11) + lw ≤ rm.locals ∧ k + k1 ≤ rm.cells ∧ n + n1 ≤ rm.slots) (hlo : lo.length = nL) (hw : (st.map fun v => v.category).sum ≤ 8) (d : decode cc pc = .ok (.invokestatic index, 3)) (kk : ∀ v S', Q v S' → xt_X E cx Z (k + k1) (n + n1) (pc + 3) lo (v.toList ++ st) S') : xt_X E cx Z k n pc lo st0 S := by
  intro H locs ls h1 h2 h3
  obtain ⟨hx, hb, hml, hown, hts, hKn, hR, -⟩ := C
  subst hR
  refine xt_after rfl (va_runS (Ts := xt_T) (As := As) (rest := st) ⟨hx, hb, hml, hown, hts⟩ hct ⟨⟨rfl, rfl, hr.1, hr.2.1, xt_good hts hm.1, List.mem_cons_self, hts _ hm.1, hts _ hm.2.2.1, hm.2.2.2.1, fun sig h => ?_, hts _ hlk⟩, hts _ hm.2.1⟩ ⟨xt_blind, fun U hU hW => ⟨rfl, by rw [hU]; exact h1, xt_Kn_warm hW h2 hU hKn⟩⟩ rfl rfl (h3.1.trans hlo) hs (lv_room hw) d ⟨hr.2.2.1, hr.2.2.2⟩) h2 h3 kk
  have h9 := hm.2.2.2.2
  rw [h] at h9
  exact (Option.some.inj h9).symm
theorem xt_callSN {host : String} (C : xt_Ok own cc nL ret rm E cx) (hm : xt_Ms y cy ny rt As.length) (hlk : Cond.methodLinkNest own index y host ∈ xt_nw) (hct : xt_Ct E cx.2.1 y cy ny rt fr lw k1 n1 As S Q) (hs : st0 = As.reverse ++ st)
    (hr : fr + 1 ≤ rm.frames ∧ 8 + (ny + 11) + lw ≤ rm.locals ∧ k + k1 ≤ rm.cells ∧ n + n1 ≤ rm.slots) (hlo : lo.length = nL) (hw : (st.map fun v => v.category).sum ≤ 8) (d : decode cc pc = .ok (.invokestatic index, 3)) (kk : ∀ v S', Q v S' → xt_X E cx Z (k + k1) (n + n1) (pc + 3) lo (v.toList ++ st) S') : xt_X E cx Z k n pc lo st0 S := by
  intro H locs ls h1 h2 h3
  obtain ⟨hx, hb, hml, hown, hts, hKn, hR, -⟩ := C
  subst hR
  refine xt_after rfl (va_runSN (Ts := xt_T) (As := As) (rest := st) ⟨hx, hb, hml, hown, hts⟩ hct ⟨⟨⟨rfl, rfl, hr.1, hr.2.1, xt_good hts hm.1, List.mem_cons_self⟩, hts _ hm.1, hts _ hm.2.2.1, hm.2.2.2.1, fun sig h => ?_, va_Nw.use rfl (hKn.2.2.1 _ hlk)⟩, hts _ hm.2.1, trivial⟩ ⟨xt_blind, fun U hU hW => ⟨rfl, by rw [hU]; exact h1, xt_Kn_warm hW h2 hU hKn⟩⟩ rfl rfl (h3.1.trans hlo) hs (lv_room hw) d ⟨hr.2.2.1, hr.2.2.2⟩) h2 h3 kk
  have h9 := hm.2.2.2.2
  rw [h] at h9
  exact (Option.some.inj h9).symm
/-- an answer and a state that are known -/
def xt_Eq (v0 : Option Value) (S0 : xt_St) : Option Value → xt_St → Prop := fun v S' => v = v0 ∧ S' = S0
end XT5
