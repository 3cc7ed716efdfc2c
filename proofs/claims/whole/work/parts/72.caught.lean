/-! an exception caught in this frame; methods with handlers -/
section XC40
def xt_CtH (E : xt_Ev) (l : Launch) (y : MethodName) (cc : ByteArray) (nL : Nat) (ret : Option FieldType) (hh : List (Nat × Nat × Nat × Nat)) (fr lw k n : Nat) (av : List Value) (S : xt_St) (Q : Option Value → xt_St → Prop) : Prop :=
  Met l y (.codeWith y cc nL ret hh :: xt_T) ({ frames := fr, cells := k, slots := n, locals := lw }) (va_Pc av (fun U => xt_Lk E S U.heap ∧ xt_Kn E U)) (xt_Qr E Q) k n (xt_Af E)
def xt_MsH (y : MethodName) (cy : ByteArray) (ny : Nat) (rt : Option FieldType) (hh : List (Nat × Nat × Nat × Nat)) (na : Nat) : Prop := Cond.codeWith y cy ny rt hh ∈ xt_T ∧ Cond.static y ∈ xt_T ∧ Cond.initialized y.cls ∈ xt_T ∧ (y.cls ≠ "java/lang/invoke/MethodHandle" ∧ y.cls ≠ "java/lang/invoke/VarHandle") ∧ (parseMethodDescriptor y.desc).map (fun d => d.parameters.length) = some na
theorem xt_goodH {s : State} {args : Array Value} (hts : ∀ w ∈ xt_T, w.before args s = true) {y : MethodName} {cy : ByteArray} {ny : Nat} {rt : Option FieldType} {hh : List (Nat × Nat × Nat × Nat)} (h : Cond.codeWith y cy ny rt hh ∈ xt_T) : ∀ w ∈ (Cond.codeWith y cy ny rt hh :: xt_T), ∀ (a' : Array Value) (U : State), s.WarmedH U.vm → w.before a' U = true := by
  intro w hw a' U hW
  have hm : w ∈ xt_T := by
    rcases List.mem_cons.mp hw with rfl | h9
    · exact h
    · exact h9
  exact word_at hW (good_of_word (xt_T_good hm)) (hts w hm)
section
variable {E : xt_Ev} {l : Launch} {y : MethodName} {cc : ByteArray} {nL fr lw k n : Nat} {ret : Option FieldType} {hh : List (Nat × Nat × Nat × Nat)} {av : List Value} {S : xt_St} {Q : Option Value → xt_St → Prop}
theorem xt_bodyH (hy : plainName y.cls = true) (h1 : ∀ v ∈ av, v.category = 1) (h2 : av.length ≤ nL)
    (h : ∀ cx : xt_Cx, xt_Ok y.cls cc nL ret ({ frames := fr, cells := k, slots := n, locals := lw }) E cx → cx.2.1 = l → cx.2.2.2.2.2.2.2.2.2.exceptionTable.toList = tableOf hh → xt_X E cx (xt_ZM E cx k n Q) 0 0 0 (av.map some ++ List.replicate (nL - av.length) none) [] S) : xt_CtH E l y cc nL ret hh fr lw k n av S Q := by
  refine va_MetW (cc := cc) (maxL := nL) (ret := ret) hy rfl ?_
  intro p e s m args below meth c s₁ B hml hv
  obtain ⟨rfl, hLk, hKn⟩ := hv
  have hts := atoms_spec (ws := Cond.codeWith y cc nL ret hh :: xt_T) B.pre
  obtain ⟨ls, he, hl⟩ := xt_entry (m := m) (nL := nL) h1 h2
  rw [he]
  exact h (p, l, e, _, s, m, av.toArray, below, meth, c) ⟨B.exec, B.bytes, hml, findClass_of_methodNamed B.named, fun w hw => hts w (List.mem_cons_of_mem _ hw), hKn, rfl, B.notSynchronized, B.returns⟩ rfl (vx_table (x := y) B (hts _ List.mem_cons_self)) s.heap [] ls hLk va_S.rf hl
end
variable {E : xt_Ev} {cx : xt_Cx} {Z : State → Prop} {k n pc nL : Nat} {lo : List (Option Value)} {st st0 : List Value} {S : xt_St} {own : String} {cc : ByteArray} {ret : Option FieldType} {rm : Room}
theorem xt_catch {X name : String} (C : xt_Ok own cc nL ret rm E cx) {hh pre suf : List (Nat × Nat × Nat × Nat)} {x : Nat × Nat × Nat × Nat} (ht : cx.2.2.2.2.2.2.2.2.2.exceptionTable.toList = tableOf hh) (hs : hh = pre ++ x :: suf)
    (hpass : ∀ z ∈ pre, ∃ nm : String, z.2.2.2 ≠ 0 ∧ Cond.classLink own z.2.2.2 nm ∈ xt_T ∧ (X, nm) ∈ xt_nc) (hx : covers ⟨x.1, x.2.1, x.2.2.1, x.2.2.2⟩ pc = true) (h0 : x.2.2.2 ≠ 0)
    (hl : Cond.classLink own x.2.2.2 name ∈ xt_T) (hcast : Cond.castable X name ∈ xt_nw) (kk : ∀ q : Nat, xt_X E cx Z k n x.2.2.1 lo [.ref q] S) : xt_XW E cx Z k n pc lo st S X := by
  intro H locs ls q ce h1 h2 h3 hce hcv hcl
  obtain ⟨hx9, hb, hml, hown, hts, hKn, hR, -⟩ := C
  refine vx_catch hown (tableOf pre) ⟨x.1, x.2.1, x.2.2.1, x.2.2.2⟩ (tableOf suf) (by rw [ht, hs]; simp [tableOf]) ?_ hx h0 (hts _ hl) (va_Nw.use rfl (hKn.2.2.1 _ hcast)) hce hcv hcl (kk q H locs ls h1 h2 h3)
  intro z hz
  obtain ⟨z9, hz9, rfl⟩ := List.mem_map.mp hz
  obtain ⟨nm, e0, e1, e2⟩ := hpass z9 hz9
  exact Or.inr ⟨e0, nm, hts _ e1, hKn.2.2.2.2.2.2.2.2.2 _ e2⟩
variable {y : MethodName} {cy : ByteArray} {ny fr lw k1 n1 i index : Nat} {rt : Option FieldType} {hh : List (Nat × Nat × Nat × Nat)} {As : List Value} {Q : Option Value → xt_St → Prop}
theorem xt_callSH (C : xt_Ok own cc nL ret rm E cx) (hm : xt_MsH y cy ny rt hh As.length) (hlk : Cond.methodLink own index y ∈ xt_T) (hct : xt_CtH E cx.2.1 y cy ny rt hh fr lw k1 n1 As S Q) (hs : st0 = As.reverse ++ st)
    (hr : fr + 1 ≤ rm.frames ∧ 8 + (ny + 11) + lw ≤ rm.locals ∧ k + k1 ≤ rm.cells ∧ n + n1 ≤ rm.slots) (hlo : lo.length = nL) (hw : (st.map fun v => v.category).sum ≤ 8) (d : decode cc pc = .ok (.invokestatic index, 3)) (kk : ∀ v S', Q v S' → xt_X E cx Z (k + k1) (n + n1) (pc + 3) lo (v.toList ++ st) S') : xt_X E cx Z k n pc lo st0 S := by
  intro H locs ls h1 h2 h3
  obtain ⟨hx, hb, hml, hown, hts, hKn, hR, -⟩ := C
  subst hR
  refine xt_after rfl (vx_runSW (hh := hh) (bytes := cy) (maxL := ny) (ret := rt) (Ts := xt_T) (As := As) (rest := st) ⟨hx, hb, hml, hown, hts⟩ hct ⟨⟨rfl, rfl, hr.1, hr.2.1, xt_goodH hts hm.1, List.mem_cons_self⟩, hts _ hm.1, hts _ hm.2.2.1, hm.2.2.2.1, fun sig h => ?_, hts _ hlk, hts _ hm.2.1⟩ ⟨xt_blind, fun U hU hW => ⟨rfl, by rw [hU]; exact h1, xt_Kn_warm hW h2 hU hKn⟩⟩ rfl rfl (h3.1.trans hlo) hs (lv_room hw) d ⟨hr.2.2.1, hr.2.2.2⟩) h2 h3 kk
  have h9 := hm.2.2.2.2
  rw [h] at h9
  exact (Option.some.inj h9).symm

def hh_L_size : List (Nat × Nat × Nat × Nat) := [(0, 10, 13, 13)]
theorem mh_L_size : xt_MsH yL_size cL_size 5 (some Jvm.ClassFile.FieldType.int) hh_L_size 4 := ⟨xt_mem 358 (by decide +kernel) rfl, xt_mem 357 (by decide +kernel) rfl, xt_mem 105 (by decide +kernel) rfl, by decide +kernel, by decide +kernel⟩
def hh_L_setting : List (Nat × Nat × Nat × Nat) := [(0, 10, 13, 13)]
theorem mh_L_setting : xt_MsH yL_setting cL_setting 5 (some Jvm.ClassFile.FieldType.int) hh_L_setting 4 := ⟨xt_mem 455 (by decide +kernel) rfl, xt_mem 454 (by decide +kernel) rfl, xt_mem 105 (by decide +kernel) rfl, by decide +kernel, by decide +kernel⟩
def hh_L_number : List (Nat × Nat × Nat × Nat) := [(0, 9, 12, 13)]
theorem mh_L_number : xt_MsH yL_number cL_number 4 (some Jvm.ClassFile.FieldType.int) hh_L_number 3 := ⟨xt_mem 474 (by decide +kernel) rfl, xt_mem 473 (by decide +kernel) rfl, xt_mem 105 (by decide +kernel) rfl, by decide +kernel, by decide +kernel⟩
def hh_L_set : List (Nat × Nat × Nat × Nat) := [(0, 12, 15, 26), (0, 12, 19, 13)]
theorem mh_L_set : xt_MsH yL_set cL_set 6 (some Jvm.ClassFile.FieldType.int) hh_L_set 5 := ⟨xt_mem 486 (by decide +kernel) rfl, xt_mem 485 (by decide +kernel) rfl, xt_mem 105 (by decide +kernel) rfl, by decide +kernel, by decide +kernel⟩
def hh_L_pixel : List (Nat × Nat × Nat × Nat) := [(0, 10, 13, 26)]
theorem mh_L_pixel : xt_MsH yL_pixel cL_pixel 5 (some Jvm.ClassFile.FieldType.int) hh_L_pixel 4 := ⟨xt_mem 522 (by decide +kernel) rfl, xt_mem 521 (by decide +kernel) rfl, xt_mem 105 (by decide +kernel) rfl, by decide +kernel, by decide +kernel⟩
def hh_L_fill : List (Nat × Nat × Nat × Nat) := [(0, 16, 19, 26), (0, 16, 23, 13)]
theorem mh_L_fill : xt_MsH yL_fill cL_fill 8 (some Jvm.ClassFile.FieldType.int) hh_L_fill 7 := ⟨xt_mem 529 (by decide +kernel) rfl, xt_mem 528 (by decide +kernel) rfl, xt_mem 105 (by decide +kernel) rfl, by decide +kernel, by decide +kernel⟩
def hh_L_mask : List (Nat × Nat × Nat × Nat) := [(0, 16, 19, 26), (0, 16, 23, 13)]
theorem mh_L_mask : xt_MsH yL_mask cL_mask 8 (some Jvm.ClassFile.FieldType.int) hh_L_mask 7 := ⟨xt_mem 543 (by decide +kernel) rfl, xt_mem 542 (by decide +kernel) rfl, xt_mem 105 (by decide +kernel) rfl, by decide +kernel, by decide +kernel⟩
def hh_L_tileOf : List (Nat × Nat × Nat × Nat) := [(0, 10, 13, 26)]
theorem mh_L_tileOf : xt_MsH yL_tileOf cL_tileOf 5 (some Jvm.ClassFile.FieldType.int) hh_L_tileOf 4 := ⟨xt_mem 550 (by decide +kernel) rfl, xt_mem 549 (by decide +kernel) rfl, xt_mem 105 (by decide +kernel) rfl, by decide +kernel, by decide +kernel⟩
def hh_L_tile : List (Nat × Nat × Nat × Nat) := [(0, 10, 13, 26), (0, 10, 17, 13)]
theorem mh_L_tile : xt_MsH yL_tile cL_tile 5 (some Jvm.ClassFile.FieldType.int) hh_L_tile 4 := ⟨xt_mem 561 (by decide +kernel) rfl, xt_mem 560 (by decide +kernel) rfl, xt_mem 105 (by decide +kernel) rfl, by decide +kernel, by decide +kernel⟩
def hh_L_raise : List (Nat × Nat × Nat × Nat) := [(0, 10, 13, 26), (0, 10, 17, 13), (0, 10, 21, 48)]
theorem mh_L_raise : xt_MsH yL_raise cL_raise 5 (some Jvm.ClassFile.FieldType.int) hh_L_raise 4 := ⟨xt_mem 651 (by decide +kernel) rfl, xt_mem 650 (by decide +kernel) rfl, xt_mem 105 (by decide +kernel) rfl, by decide +kernel, by decide +kernel⟩
def hh_L_swap : List (Nat × Nat × Nat × Nat) := [(0, 10, 13, 26), (0, 10, 17, 48)]
theorem mh_L_swap : xt_MsH yL_swap cL_swap 5 (some Jvm.ClassFile.FieldType.int) hh_L_swap 4 := ⟨xt_mem 688 (by decide +kernel) rfl, xt_mem 687 (by decide +kernel) rfl, xt_mem 105 (by decide +kernel) rfl, by decide +kernel, by decide +kernel⟩
def hh_L_soften : List (Nat × Nat × Nat × Nat) := [(0, 10, 13, 26), (0, 10, 17, 13)]
theorem mh_L_soften : xt_MsH yL_soften cL_soften 5 (some Jvm.ClassFile.FieldType.int) hh_L_soften 4 := ⟨xt_mem 702 (by decide +kernel) rfl, xt_mem 701 (by decide +kernel) rfl, xt_mem 105 (by decide +kernel) rfl, by decide +kernel, by decide +kernel⟩
def hh_L_coefficient : List (Nat × Nat × Nat × Nat) := [(0, 12, 15, 26)]
theorem mh_L_coefficient : xt_MsH yL_coefficient cL_coefficient 6 (some Jvm.ClassFile.FieldType.int) hh_L_coefficient 5 := ⟨xt_mem 744 (by decide +kernel) rfl, xt_mem 743 (by decide +kernel) rfl, xt_mem 105 (by decide +kernel) rfl, by decide +kernel, by decide +kernel⟩
def hh_L_band : List (Nat × Nat × Nat × Nat) := [(0, 12, 15, 26)]
theorem mh_L_band : xt_MsH yL_band cL_band 6 (some Jvm.ClassFile.FieldType.int) hh_L_band 5 := ⟨xt_mem 757 (by decide +kernel) rfl, xt_mem 756 (by decide +kernel) rfl, xt_mem 105 (by decide +kernel) rfl, by decide +kernel, by decide +kernel⟩
def hh_L_layerOf : List (Nat × Nat × Nat × Nat) := [(0, 14, 17, 26), (0, 14, 21, 13)]
theorem mh_L_layerOf : xt_MsH yL_layerOf cL_layerOf 7 (some Jvm.ClassFile.FieldType.int) hh_L_layerOf 6 := ⟨xt_mem 764 (by decide +kernel) rfl, xt_mem 763 (by decide +kernel) rfl, xt_mem 105 (by decide +kernel) rfl, by decide +kernel, by decide +kernel⟩
def hh_L_bits : List (Nat × Nat × Nat × Nat) := [(0, 10, 13, 26), (0, 10, 17, 13)]
theorem mh_L_bits : xt_MsH yL_bits cL_bits 5 (some Jvm.ClassFile.FieldType.int) hh_L_bits 4 := ⟨xt_mem 773 (by decide +kernel) rfl, xt_mem 772 (by decide +kernel) rfl, xt_mem 105 (by decide +kernel) rfl, by decide +kernel, by decide +kernel⟩
def hh_L_descendants : List (Nat × Nat × Nat × Nat) := [(0, 12, 15, 26)]
theorem mh_L_descendants : xt_MsH yL_descendants cL_descendants 6 (some Jvm.ClassFile.FieldType.int) hh_L_descendants 5 := ⟨xt_mem 789 (by decide +kernel) rfl, xt_mem 788 (by decide +kernel) rfl, xt_mem 105 (by decide +kernel) rfl, by decide +kernel, by decide +kernel⟩
def hh_L_roots : List (Nat × Nat × Nat × Nat) := [(0, 10, 13, 26), (0, 10, 17, 13)]
theorem mh_L_roots : xt_MsH yL_roots cL_roots 5 (some Jvm.ClassFile.FieldType.int) hh_L_roots 4 := ⟨xt_mem 804 (by decide +kernel) rfl, xt_mem 803 (by decide +kernel) rfl, xt_mem 105 (by decide +kernel) rfl, by decide +kernel, by decide +kernel⟩
def hh_L_needed : List (Nat × Nat × Nat × Nat) := [(0, 10, 13, 26)]
theorem mh_L_needed : xt_MsH yL_needed cL_needed 5 (some Jvm.ClassFile.FieldType.int) hh_L_needed 4 := ⟨xt_mem 824 (by decide +kernel) rfl, xt_mem 823 (by decide +kernel) rfl, xt_mem 105 (by decide +kernel) rfl, by decide +kernel, by decide +kernel⟩
def hh_L_decoded : List (Nat × Nat × Nat × Nat) := [(0, 12, 15, 13), (0, 12, 19, 26)]
theorem mh_L_decoded : xt_MsH yL_decoded cL_decoded 6 (some Jvm.ClassFile.FieldType.int) hh_L_decoded 5 := ⟨xt_mem 838 (by decide +kernel) rfl, xt_mem 837 (by decide +kernel) rfl, xt_mem 105 (by decide +kernel) rfl, by decide +kernel, by decide +kernel⟩
def hh_L_worst : List (Nat × Nat × Nat × Nat) := [(0, 12, 15, 13), (0, 12, 19, 26)]
theorem mh_L_worst : xt_MsH yL_worst cL_worst 6 (some Jvm.ClassFile.FieldType.int) hh_L_worst 5 := ⟨xt_mem 845 (by decide +kernel) rfl, xt_mem 844 (by decide +kernel) rfl, xt_mem 105 (by decide +kernel) rfl, by decide +kernel, by decide +kernel⟩
def hh_L_meanSquare : List (Nat × Nat × Nat × Nat) := [(0, 8, 11, 13)]
theorem mh_L_meanSquare : xt_MsH yL_meanSquare cL_meanSquare 4 (some Jvm.ClassFile.FieldType.int) hh_L_meanSquare 3 := ⟨xt_mem 861 (by decide +kernel) rfl, xt_mem 860 (by decide +kernel) rfl, xt_mem 105 (by decide +kernel) rfl, by decide +kernel, by decide +kernel⟩
def hh_L_plan : List (Nat × Nat × Nat × Nat) := [(0, 9, 12, 13)]
theorem mh_L_plan : xt_MsH yL_plan cL_plan 4 (some Jvm.ClassFile.FieldType.int) hh_L_plan 3 := ⟨xt_mem 872 (by decide +kernel) rfl, xt_mem 871 (by decide +kernel) rfl, xt_mem 105 (by decide +kernel) rfl, by decide +kernel, by decide +kernel⟩
def hh_L_planned : List (Nat × Nat × Nat × Nat) := [(0, 9, 12, 95), (0, 9, 15, 26)]
theorem mh_L_planned : xt_MsH yL_planned cL_planned 4 (some Jvm.ClassFile.FieldType.int) hh_L_planned 3 := ⟨xt_mem 894 (by decide +kernel) rfl, xt_mem 893 (by decide +kernel) rfl, xt_mem 105 (by decide +kernel) rfl, by decide +kernel, by decide +kernel⟩
def hh_L_feed : List (Nat × Nat × Nat × Nat) := [(0, 9, 12, 101)]
theorem mh_L_feed : xt_MsH yL_feed cL_feed 4 (some Jvm.ClassFile.FieldType.int) hh_L_feed 3 := ⟨xt_mem 919 (by decide +kernel) rfl, xt_mem 918 (by decide +kernel) rfl, xt_mem 105 (by decide +kernel) rfl, by decide +kernel, by decide +kernel⟩
def hh_L_read : List (Nat × Nat × Nat × Nat) := [(0, 8, 11, 13), (0, 8, 14, 48)]
theorem mh_L_read : xt_MsH yL_read cL_read 3 (some Jvm.ClassFile.FieldType.int) hh_L_read 2 := ⟨xt_mem 947 (by decide +kernel) rfl, xt_mem 946 (by decide +kernel) rfl, xt_mem 105 (by decide +kernel) rfl, by decide +kernel, by decide +kernel⟩
def hh_L_faultPosition : List (Nat × Nat × Nat × Nat) := [(0, 8, 11, 95)]
theorem mh_L_faultPosition : xt_MsH yL_faultPosition cL_faultPosition 3 (some Jvm.ClassFile.FieldType.int) hh_L_faultPosition 2 := ⟨xt_mem 1060 (by decide +kernel) rfl, xt_mem 1059 (by decide +kernel) rfl, xt_mem 105 (by decide +kernel) rfl, by decide +kernel, by decide +kernel⟩
def hh_L_refusal : List (Nat × Nat × Nat × Nat) := [(0, 9, 12, 95)]
theorem mh_L_refusal : xt_MsH yL_refusal cL_refusal 4 (some Jvm.ClassFile.FieldType.int) hh_L_refusal 3 := ⟨xt_mem 1068 (by decide +kernel) rfl, xt_mem 1067 (by decide +kernel) rfl, xt_mem 105 (by decide +kernel) rfl, by decide +kernel, by decide +kernel⟩
def hh_L_undo : List (Nat × Nat × Nat × Nat) := [(0, 8, 11, 101)]
theorem mh_L_undo : xt_MsH yL_undo cL_undo 3 (some Jvm.ClassFile.FieldType.int) hh_L_undo 2 := ⟨xt_mem 1076 (by decide +kernel) rfl, xt_mem 1075 (by decide +kernel) rfl, xt_mem 105 (by decide +kernel) rfl, by decide +kernel, by decide +kernel⟩
def hh_L_restoreSnapshot : List (Nat × Nat × Nat × Nat) := [(0, 8, 11, 101)]
theorem mh_L_restoreSnapshot : xt_MsH yL_restoreSnapshot cL_restoreSnapshot 3 (some Jvm.ClassFile.FieldType.int) hh_L_restoreSnapshot 2 := ⟨xt_mem 1089 (by decide +kernel) rfl, xt_mem 1088 (by decide +kernel) rfl, xt_mem 105 (by decide +kernel) rfl, by decide +kernel, by decide +kernel⟩
theorem lkcL_13 : Cond.classLink RL 13 "java/lang/IllegalArgumentException" ∈ xt_T := xt_mem 359 (by decide +kernel) rfl
theorem lkcL_26 : Cond.classLink RL 26 "java/lang/IndexOutOfBoundsException" ∈ xt_T := xt_mem 487 (by decide +kernel) rfl
theorem lkcL_48 : Cond.classLink RL 48 "java/lang/UnsupportedOperationException" ∈ xt_T := xt_mem 652 (by decide +kernel) rfl
theorem lkcL_95 : Cond.classLink RL 95 "java/util/NoSuchElementException" ∈ xt_T := xt_mem 895 (by decide +kernel) rfl
theorem lkcL_101 : Cond.classLink RL 101 "java/lang/IllegalStateException" ∈ xt_T := xt_mem 920 (by decide +kernel) rfl
theorem cst_IAE_IAE : Cond.castable "java/lang/IllegalArgumentException" "java/lang/IllegalArgumentException" ∈ xt_nw := xt_nmem 264 (by decide +kernel) rfl
theorem cst_IOOBE_IOOBE : Cond.castable "java/lang/IndexOutOfBoundsException" "java/lang/IndexOutOfBoundsException" ∈ xt_nw := xt_nmem 394 (by decide +kernel) rfl
theorem cst_UOE_UOE : Cond.castable "java/lang/UnsupportedOperationException" "java/lang/UnsupportedOperationException" ∈ xt_nw := xt_nmem 563 (by decide +kernel) rfl
theorem cst_NSEE_NSEE : Cond.castable "java/util/NoSuchElementException" "java/util/NoSuchElementException" ∈ xt_nw := xt_nmem 797 (by decide +kernel) rfl
theorem cst_ISE_ISE : Cond.castable "java/lang/IllegalStateException" "java/lang/IllegalStateException" ∈ xt_nw := xt_nmem 822 (by decide +kernel) rfl
end XC40
