/-! long numbers' rows; Long.bitCount; the parts' joining -/
section XM18
variable {E : xt_Ev} {l : Launch} {S : xt_St}
section LR
variable {own : String} {cc : ByteArray} {nL : Nat} {ret : Option FieldType} {rm : Room} {cx : xt_Cx} {Z : State → Prop} {k n pc : Nat} {lo : List (Option Value)} {st : List Value}
theorem xt_lload_n (C : xt_Ok own cc nL ret rm E cx) {q : Fin 4} {x : Int64} (d : decode cc pc = .ok (.lload_n q, 1)) (hl : lo[(q : Nat)]? = some (some (.long x))) (kk : xt_X E cx Z k n (pc + 1) lo (.long x :: st) S) : xt_X E cx Z k n pc lo st S := fun H locs ls h1 h2 h3 => lv_lload_n C.1 C.2.1 d rfl (h3.2.2 _ _ hl) (kk H locs ls h1 h2 h3)
theorem xt_st2J {ls : Array Slot} {x : Int64} {L : List (Nat × Value)} (h : lv_has ls 2 ((0, Value.long x) :: L)) : xt_lh ls [some (.long x), none] := ⟨h.1, h.2.1, fun i v hi => by
  match i, hi with
  | 0, hi => cases hi; exact h.2.2 _ List.mem_cons_self
  | 1, hi => cases hi
  | i + 2, hi => cases hi⟩
theorem xt_lstore_0J (C : xt_Ok own cc 2 ret rm E cx) {x y : Int64} (d : decode cc pc = .ok (.lstore_n 0, 1)) (kk : xt_X E cx Z k n (pc + 1) [some (.long x), none] st S) : xt_X E cx Z k n pc [some (.long y), none] (.long x :: st) S := fun H locs ls h1 h2 h3 => lv_lstore_n C.1 C.2.1 d rfl (xt_lh_has h3) (Nat.lt_succ_self 1) rfl (fun ls' h9 => kk H locs ls' h1 h2 (xt_st2J h9))
theorem xt_land (C : xt_Ok own cc nL ret rm E cx) {x y : Int64} (d : decode cc pc = .ok (.land, 1)) (kk : xt_X E cx Z k n (pc + 1) lo (.long (x &&& y) :: st) S) : xt_X E cx Z k n pc lo (.long y :: .long x :: st) S := fun H locs ls h1 h2 h3 => lv_land C.1 C.2.1 d (kk H locs ls h1 h2 h3)
theorem xt_ladd (C : xt_Ok own cc nL ret rm E cx) {x y : Int64} (d : decode cc pc = .ok (.ladd, 1)) (kk : xt_X E cx Z k n (pc + 1) lo (.long (x + y) :: st) S) : xt_X E cx Z k n pc lo (.long y :: .long x :: st) S := fun H locs ls h1 h2 h3 => lv_ladd C.1 C.2.1 d (kk H locs ls h1 h2 h3)
theorem xt_lsub (C : xt_Ok own cc nL ret rm E cx) {x y : Int64} (d : decode cc pc = .ok (.lsub, 1)) (kk : xt_X E cx Z k n (pc + 1) lo (.long (x - y) :: st) S) : xt_X E cx Z k n pc lo (.long y :: .long x :: st) S := fun H locs ls h1 h2 h3 => lv_lsub C.1 C.2.1 d (kk H locs ls h1 h2 h3)
def xt_us (x : Int64) (y : Int32) : Int64 := (x.toUInt64 >>> (y.toInt64.toUInt64 &&& Int64.toUInt64 63)).toInt64
theorem xt_lushr (C : xt_Ok own cc nL ret rm E cx) {x : Int64} {y : Int32} (d : decode cc pc = .ok (.lushr, 1)) (kk : xt_X E cx Z k n (pc + 1) lo (.long (xt_us x y) :: st) S) : xt_X E cx Z k n pc lo (.int y :: .long x :: st) S := fun H locs ls h1 h2 h3 => lv_lushr C.1 C.2.1 d rfl (kk H locs ls h1 h2 h3)
theorem xt_l2i (C : xt_Ok own cc nL ret rm E cx) {x : Int64} (d : decode cc pc = .ok (.l2i, 1)) (kk : xt_X E cx Z k n (pc + 1) lo (.int x.toInt32 :: st) S) : xt_X E cx Z k n pc lo (.long x :: st) S := fun H locs ls h1 h2 h3 => lv_l2i C.1 C.2.1 d rfl (kk H locs ls h1 h2 h3)
theorem xt_ldc2 (C : xt_Ok own cc nL ret rm E cx) {index : Nat} {v : Int64} (hk : Cond.constantLong own index v ∈ xt_T) (d : decode cc pc = .ok (.ldc2_w index, 3)) (kk : xt_X E cx Z k n (pc + 3) lo (.long v :: st) S) : xt_X E cx Z k n pc lo st S := fun H locs ls h1 h2 h3 => lv_ldc2 C.1 C.2.1 C.2.2.2.1 (C.2.2.2.2.1 _ hk) d (kk H locs ls h1 h2 h3)
end LR
theorem xt_entryJ {x : Int64} {m : MethodId} : ∃ ls : Array Slot, entryFrame m #[.long x] 2 = F0 m 0 ls [] ∧ xt_lh ls [some (.long x), none] := by
  have hl := lv_entry [Value.long x] (n := 2) (Nat.le_refl 2)
  refine ⟨_, lg_entry_eq m [Value.long x] 2, ?_, hl.2.1, fun i v hi => ?_⟩
  · rw [hl.1]; rfl
  · match i, hi with
    | 0, hi => cases hi; rfl
    | 1, hi => cases hi
    | i + 2, hi => cases hi
theorem xt_bodyJ {y : MethodName} {cc : ByteArray} {fr lw k n : Nat} {ret : Option FieldType} {x : Int64} {Q : Option Value → xt_St → Prop} (hy : plainName y.cls = true)
    (h : ∀ cx : xt_Cx, xt_Ok y.cls cc 2 ret ({ frames := fr, cells := k, slots := n, locals := lw }) E cx → cx.2.1 = l → xt_X E cx (xt_ZM E cx k n Q) 0 0 0 [some (.long x), none] [] S) : xt_Ct E l y cc 2 ret fr lw k n [.long x] S Q := by
  refine Met.ofW (cc := cc) (maxL := 2) (ret := ret) hy rfl ?_
  intro p e s m args below meth c s₁ B hml hv
  obtain ⟨rfl, hLk, hKn⟩ := hv
  have hts := atoms_spec (ws := Cond.code y cc 2 ret :: xt_T) B.pre
  obtain ⟨ls, he, hl⟩ := xt_entryJ (m := m) (x := x)
  show _
  rw [show ([Value.long x]).toArray = #[Value.long x] from rfl, he]
  exact h (p, l, e, _, s, m, ([Value.long x]).toArray, below, meth, c) ⟨B.exec, B.bytes, hml, findClass_of_methodNamed B.named, fun w hw => hts w (List.mem_cons_of_mem _ hw), hKn, rfl, B.notSynchronized, B.returns⟩ rfl s.heap [] ls hLk va_S.rf hl
/-- how many bits are set, as Long.bitCount reckons -/
def xt_bc1 (x : Int64) : Int64 := x - (xt_us x (nI 1) &&& 6148914691236517205)
def xt_bc2 (x : Int64) : Int64 := (x &&& 3689348814741910323) + (xt_us x (nI 2) &&& 3689348814741910323)
def xt_bc3 (x : Int64) : Int64 := (x + xt_us x (nI 4)) &&& 1085102592571150095
def xt_bc4 (x : Int64) : Int64 := x + xt_us x (nI 8)
def xt_bc5 (x : Int64) : Int64 := x + xt_us x (nI 16)
def xt_bc6 (x : Int64) : Int64 := x + xt_us x (nI 32)
def xt_bcn (x : Int64) : Int32 := (xt_bc6 (xt_bc5 (xt_bc4 (xt_bc3 (xt_bc2 (xt_bc1 x)))))).toInt32 &&& nI 127
set_option maxRecDepth 20000 in
set_option maxHeartbeats 2000000 in
theorem ct_bitCount {x : Int64} : xt_Ct E l yJ13_bitCount_95d88 cJ13_bitCount_95d88 2 (some Jvm.ClassFile.FieldType.int) 0 0 0 0 [.long x] S (xt_Eq (some (.int (xt_bcn x))) S) := by
  refine xt_bodyJ (by decide +kernel) (fun cx C hl9 => ?_)
  refine xt_lload_n C dJ13_bitCount_95d88_0 rfl ?_
  refine xt_lload_n C dJ13_bitCount_95d88_1 rfl ?_
  refine xt_iconst (v := nI 1) C dJ13_bitCount_95d88_2 rfl ?_
  refine xt_lushr C dJ13_bitCount_95d88_3 ?_
  refine xt_ldc2 (v := 6148914691236517205) C (xt_mem 1397 (by decide +kernel) rfl) dJ13_bitCount_95d88_4 ?_
  refine xt_land C dJ13_bitCount_95d88_7 ?_
  refine xt_lsub C dJ13_bitCount_95d88_8 ?_
  refine xt_lstore_0J C dJ13_bitCount_95d88_9 ?_
  refine xt_lload_n C dJ13_bitCount_95d88_10 rfl ?_
  refine xt_ldc2 (v := 3689348814741910323) C (xt_mem 1398 (by decide +kernel) rfl) dJ13_bitCount_95d88_11 ?_
  refine xt_land C dJ13_bitCount_95d88_14 ?_
  refine xt_lload_n C dJ13_bitCount_95d88_15 rfl ?_
  refine xt_iconst (v := nI 2) C dJ13_bitCount_95d88_16 rfl ?_
  refine xt_lushr C dJ13_bitCount_95d88_17 ?_
  refine xt_ldc2 (v := 3689348814741910323) C (xt_mem 1398 (by decide +kernel) rfl) dJ13_bitCount_95d88_18 ?_
  refine xt_land C dJ13_bitCount_95d88_21 ?_
  refine xt_ladd C dJ13_bitCount_95d88_22 ?_
  refine xt_lstore_0J C dJ13_bitCount_95d88_23 ?_
  refine xt_lload_n C dJ13_bitCount_95d88_24 rfl ?_
  refine xt_lload_n C dJ13_bitCount_95d88_25 rfl ?_
  refine xt_iconst (v := nI 4) C dJ13_bitCount_95d88_26 rfl ?_
  refine xt_lushr C dJ13_bitCount_95d88_27 ?_
  refine xt_ladd C dJ13_bitCount_95d88_28 ?_
  refine xt_ldc2 (v := 1085102592571150095) C (xt_mem 1399 (by decide +kernel) rfl) dJ13_bitCount_95d88_29 ?_
  refine xt_land C dJ13_bitCount_95d88_32 ?_
  refine xt_lstore_0J C dJ13_bitCount_95d88_33 ?_
  refine xt_lload_n C dJ13_bitCount_95d88_34 rfl ?_
  refine xt_lload_n C dJ13_bitCount_95d88_35 rfl ?_
  refine xt_bipush (v := nI 8) C dJ13_bitCount_95d88_36 rfl ?_
  refine xt_lushr C dJ13_bitCount_95d88_38 ?_
  refine xt_ladd C dJ13_bitCount_95d88_39 ?_
  refine xt_lstore_0J C dJ13_bitCount_95d88_40 ?_
  refine xt_lload_n C dJ13_bitCount_95d88_41 rfl ?_
  refine xt_lload_n C dJ13_bitCount_95d88_42 rfl ?_
  refine xt_bipush (v := nI 16) C dJ13_bitCount_95d88_43 rfl ?_
  refine xt_lushr C dJ13_bitCount_95d88_45 ?_
  refine xt_ladd C dJ13_bitCount_95d88_46 ?_
  refine xt_lstore_0J C dJ13_bitCount_95d88_47 ?_
  refine xt_lload_n C dJ13_bitCount_95d88_48 rfl ?_
  refine xt_lload_n C dJ13_bitCount_95d88_49 rfl ?_
  refine xt_bipush (v := nI 32) C dJ13_bitCount_95d88_50 rfl ?_
  refine xt_lushr C dJ13_bitCount_95d88_52 ?_
  refine xt_ladd C dJ13_bitCount_95d88_53 ?_
  refine xt_lstore_0J C dJ13_bitCount_95d88_54 ?_
  refine xt_lload_n C dJ13_bitCount_95d88_55 rfl ?_
  refine xt_l2i C dJ13_bitCount_95d88_56 ?_
  refine xt_bipush (v := nI 127) C dJ13_bitCount_95d88_57 rfl ?_
  refine xt_iand C dJ13_bitCount_95d88_59 ?_
  exact xt_iret C dJ13_bitCount_95d88_60 ⟨by decide, by decide⟩ ⟨rfl, rfl⟩
/-- a place of a row (or column) of parts after joining it -/
def xt_pv (g : Nat → Int64) (n i : Nat) : Int64 := if i + 2 = 2 * ((n + 1) / 2) ∧ n % 2 = 1 then g ((n + 1) / 2 - 1) else g (i / 2) ||| g ((n + 1) / 2 + i / 2)
/-- a level of parts joined -/
def xt_pL (w h i : Nat) (f : Nat → Nat → Int64) : Nat → Nat → Int64 := fun y x => if y < xt_lo h i ∧ x < xt_lo w i then xt_pv (fun a => xt_pv (fun b => f b a) (xt_lo h i) y) (xt_lo w i) x else f y x
def xt_pD (w h : Nat) : Nat → (Nat → Nat → Int64) → Nat → Nat → Int64
  | 0, f => f
  | m + 1, f => xt_pD w h m (xt_pL w h m f)
def xt_pB (y x : Nat) : Int64 := Int64.ofNat (2 ^ (8 * y + x))
theorem xt_pB_e {i : Nat} (hi : i < 64) : Int64.ofNat 1 <<< ((nI i).toInt64 &&& 63) = Int64.ofNat (2 ^ i) := co_dec (N := 64) (P := fun i => Int64.ofNat 1 <<< ((nI i).toInt64 &&& 63) = Int64.ofNat (2 ^ i)) (by decide +kernel) hi
theorem xt_pn0 : ∀ w, w < 9 → ∀ h, h < 9 → ∀ y, y < h → ∀ x, x < w → xt_bcn (xt_pD w h 0 xt_pB y x) = nI (xt_need 0 w h x y) := by decide +kernel
theorem xt_pn1 : ∀ w, w < 9 → ∀ h, h < 9 → ∀ y, y < h → ∀ x, x < w → xt_bcn (xt_pD w h 1 xt_pB y x) = nI (xt_need 1 w h x y) := by decide +kernel
theorem xt_pn2 : ∀ w, w < 9 → ∀ h, h < 9 → ∀ y, y < h → ∀ x, x < w → xt_bcn (xt_pD w h 2 xt_pB y x) = nI (xt_need 2 w h x y) := by decide +kernel
theorem xt_pn3 : ∀ w, w < 9 → ∀ h, h < 9 → ∀ y, y < h → ∀ x, x < w → xt_bcn (xt_pD w h 3 xt_pB y x) = nI (xt_need 3 w h x y) := by decide +kernel
theorem xt_pn {dp w h x y : Nat} (hd : dp ≤ 3) (hw : w ≤ 8) (hh : h ≤ 8) (hx : x < w) (hy : y < h) : xt_bcn (xt_pD w h dp xt_pB y x) = nI (xt_need dp w h x y) := by
  match dp, hd with
  | 0, _ => exact xt_pn0 w (by omega) h (by omega) y hy x hx
  | 1, _ => exact xt_pn1 w (by omega) h (by omega) y hy x hx
  | 2, _ => exact xt_pn2 w (by omega) h (by omega) y hy x hx
  | 3, _ => exact xt_pn3 w (by omega) h (by omega) y hy x hx
end XM18
