/-! TEXTS: the rows of String constants, and the JDK's methods over them -/
section XC18
variable {E : xt_Ev} {l : Launch} {S : xt_St}
section XC18R
variable {own : String} {cc : ByteArray} {nL : Nat} {ret : Option FieldType} {rm : Room} {cx : xt_Cx} {Z : State → Prop} {k n pc : Nat} {lo : List (Option Value)} {st : List Value}
theorem xt_ldcS (C : xt_Ok own cc nL ret rm E cx) {i index : Nat} {tx : String} (hi : xt_tx[i]? = some (own, index, tx)) (d : decode cc pc = .ok (.ldc index, 2)) (kk : xt_X E cx Z k n (pc + 2) lo (.ref (E.2.2.2.2.1 i) :: st) S) : xt_X E cx Z k n pc lo st S := fun H locs ls h1 h2 h3 =>
  va_ldcS C.1 C.2.1 C.2.2.2.1 (C.2.2.2.2.2.1.2.2.2.2.2.2.1 i _ hi) d (kk H locs ls h1 h2 h3)
theorem xt_coderS (C : xt_Ok own cc nL ret rm E cx) {i index : Nat} (hi : i < 31) (hlk : Cond.fieldLink own index "java/lang/String" "coder" "B" ∈ xt_T) (d : decode cc pc = .ok (.getfield index, 3)) (kk : xt_X E cx Z k n (pc + 3) lo (.int (nI 0) :: st) S) : xt_X E cx Z k n pc lo (.ref (E.2.2.2.2.1 i) :: st) S := fun H locs ls h1 h2 h3 =>
  vk_getf (o := "java/lang/String") C.1 C.2.1 (C.2.2.2.2.2.1.2.2.2.2.2.1.1 i hi).2.1 h2 C.2.2.2.1 (C.2.2.2.2.1 _ hlk) (fun _ h => h) d (kk H locs ls h1 h2 h3)
theorem xt_valueS (C : xt_Ok own cc nL ret rm E cx) {i index : Nat} (hi : i < 31) (hlk : Cond.fieldLink own index "java/lang/String" "value" "[B" ∈ xt_T) (d : decode cc pc = .ok (.getfield index, 3)) (kk : xt_X E cx Z k n (pc + 3) lo (.ref (E.2.2.2.2.2 i) :: st) S) : xt_X E cx Z k n pc lo (.ref (E.2.2.2.2.1 i) :: st) S := fun H locs ls h1 h2 h3 =>
  vk_getf (o := "java/lang/String") C.1 C.2.1 (C.2.2.2.2.2.1.2.2.2.2.2.1.1 i hi).2.2.1 h2 C.2.2.2.1 (C.2.2.2.2.1 _ hlk) (fun _ h => h) d (kk H locs ls h1 h2 h3)
theorem xt_alenS (C : xt_Ok own cc nL ret rm E cx) {i m : Nat} (hi : i < 31) (hn : xt_tl.getD i 0 = m) (d : decode cc pc = .ok (.arraylength, 1)) (kk : xt_X E cx Z k n (pc + 1) lo (.int (nI m) :: st) S) : xt_X E cx Z k n pc lo (.ref (E.2.2.2.2.2 i) :: st) S := fun H locs ls h1 h2 h3 =>
  va_tlen C.1 C.2.1 (C.2.2.2.2.2.1.2.2.2.2.2.1.1 i hi).2.2.2 h2 (congrArg nI hn) d (kk H locs ls h1 h2 h3)
theorem xt_baldS (C : xt_Ok own cc nL ret rm E cx) {i j m : Nat} {v : Int32} (hi : i < 31) (hj : j < m) (hm : m < 2 ^ 31) (hn : xt_tl.getD i 0 = m) (hv : (xt_tb.getD i []).getD j 0 = v) (d : decode cc pc = .ok (.baload, 1)) (kk : xt_X E cx Z k n (pc + 1) lo (.int v :: st) S) : xt_X E cx Z k n pc lo (.int (nI j) :: .ref (E.2.2.2.2.2 i) :: st) S := fun H locs ls h1 h2 h3 =>
  va_tb C.1 C.2.1 (C.2.2.2.2.2.1.2.2.2.2.2.1.1 i hi).2.2.2 h2 (vp_in_nI (hn.symm ▸ hj) (hn.symm ▸ hm)) (v := .int v) (by show Value.int ((xt_tb.getD i []).getD (nI j).toNatClampNeg 0) = .int v; rw [nI_clamp (by omega), hv]) d (kk H locs ls h1 h2 h3)
theorem xt_getCS (C : xt_Ok own cc nL ret rm E cx) {index : Nat} (hlk : Cond.fieldLink own index "java/lang/String" "COMPACT_STRINGS" "Z" ∈ xt_T) (d : decode cc pc = .ok (.getstatic index, 3)) (kk : xt_X E cx Z k n (pc + 3) lo (.int (nI 1) :: st) S) : xt_X E cx Z k n pc lo st S := fun H locs ls h1 h2 h3 =>
  va_gets (C := "java/lang/String") C.1 C.2.1 C.2.2.2.2.2.1.2.2.2.2.2.2.2.1 h2 C.2.2.2.1 (C.2.2.2.2.1 _ hlk) (fun _ h => h) d (kk H locs ls h1 h2 h3)
theorem xt_getSF (C : xt_Ok own cc nL ret rm E cx) {index : Nat} (hlk : Cond.fieldLink own index "jdk/internal/util/Preconditions" "SIOOBE_FORMATTER" "Ljava/util/function/BiFunction;" ∈ xt_T) (d : decode cc pc = .ok (.getstatic index, 3)) (kk : ∀ v : Value, v.category = 1 → xt_X E cx Z k n (pc + 3) lo (v :: st) S) : xt_X E cx Z k n pc lo st S := fun H locs ls h1 h2 h3 => by
  rcases C.2.2.2.2.2.1.2.2.2.2.2.2.2.2.1 with hz | ⟨t, hz⟩
  · exact va_gets (C := "jdk/internal/util/Preconditions") C.1 C.2.1 hz h2 C.2.2.2.1 (C.2.2.2.2.1 _ hlk) (fun _ h => h) d (kk _ rfl H locs ls h1 h2 h3)
  · exact va_gets (C := "jdk/internal/util/Preconditions") C.1 C.2.1 hz h2 C.2.2.2.1 (C.2.2.2.2.1 _ hlk) (fun _ h => h) d (kk _ rfl H locs ls h1 h2 h3)
variable {y : MethodName} {cy : ByteArray} {ny fr lw index : Nat} {rt : Option FieldType} {As st0 : List Value} {r : Value} {S1 : xt_St} {i : Nat}
theorem xt_callT {k1 n1 : Nat} {Q : Option Value → xt_St → Prop} (C : xt_Ok own cc nL ret rm E cx) (hm : xt_Mv y cy ny rt As.length) (hlk : Cond.methodLink own index y ∈ xt_T) (hct : xt_Ct E cx.2.1 y cy ny rt fr lw k1 n1 (.ref (E.2.2.2.2.1 i) :: As) S Q) (hs : st0 = As.reverse ++ .ref (E.2.2.2.2.1 i) :: st) (hi : i < 31) (hcl : y.cls = "java/lang/String")
    (hr : fr + 1 ≤ rm.frames ∧ 8 + (ny + 11) + lw ≤ rm.locals ∧ k + k1 ≤ rm.cells ∧ n + n1 ≤ rm.slots) (hlo : lo.length = nL) (hw : (st.map fun v => v.category).sum ≤ 8) (d : decode cc pc = .ok (.invokevirtual index, 3)) (kk : ∀ v S', Q v S' → xt_X E cx Z (k + k1) (n + n1) (pc + 3) lo (v.toList ++ st) S') : xt_X E cx Z k n pc lo st0 S := by
  intro H locs ls h1 h2 h3
  obtain ⟨hx, hb, hml, hown, hts, hKn, hR, -⟩ := C
  subst hR
  refine xt_after rfl (va_runV (Ts := xt_T) (As := As) (rest := st) ⟨hx, hb, hml, hown, hts⟩ hct ⟨⟨rfl, rfl, hr.1, hr.2.1, xt_good hts hm.1, List.mem_cons_self, hts _ hm.1, hts _ hm.2.2.2.1, hm.2.2.2.2.1, fun sig h => ?_, hts _ hlk⟩, hts _ hm.2.1, hts _ hm.2.2.1⟩ ⟨xt_blind, hcl.symm ▸ vk_recv hKn.2.2.2.2.2.1 hi h2, fun U hU hW => ⟨rfl, by rw [hU]; exact h1, xt_Kn_warm hW h2 hU hKn⟩⟩ rfl rfl (h3.1.trans hlo) hs (lv_room hw) d ⟨hr.2.2.1, hr.2.2.2⟩) h2 h3 kk
  have h9 := hm.2.2.2.2.2
  rw [h] at h9
  exact (Option.some.inj h9).symm
theorem xt_cT (C : xt_Ok own cc nL ret rm E cx) (hm : xt_Mv y cy ny rt As.length) (hlk : Cond.methodLink own index y ∈ xt_T) (hct : xt_Ct E cx.2.1 y cy ny rt fr lw 0 0 (.ref (E.2.2.2.2.1 i) :: As) S (xt_Eq (some r) S1)) (hs : st0 = As.reverse ++ .ref (E.2.2.2.2.1 i) :: st) (hi : i < 31) (hcl : y.cls = "java/lang/String") (hr : fr + 1 ≤ rm.frames ∧ 8 + (ny + 11) + lw ≤ rm.locals ∧ k ≤ rm.cells ∧ n ≤ rm.slots) (hlo : lo.length = nL) (hw : (st.map fun v => v.category).sum ≤ 8) (d : decode cc pc = .ok (.invokevirtual index, 3)) (kk : xt_X E cx Z k n (pc + 3) lo (r :: st) S1) : xt_X E cx Z k n pc lo st0 S := xt_callT C hm hlk hct hs hi hcl hr hlo hw d (fun v S2 h => by obtain ⟨rfl, rfl⟩ := h; exact kk)
end XC18R
set_option maxRecDepth 20000 in
set_option maxHeartbeats 2000000 in
theorem ct_coder {i : Nat} (hi : i < 31) : xt_Ct E l yJ0_coder_7d493 cJ0_coder_7d493 1 (some Jvm.ClassFile.FieldType.byte) 0 0 0 0 [.ref (E.2.2.2.2.1 i)] S (xt_Eq (some (.int (nI 0))) S) := by
  refine xt_body (by decide +kernel) (xt_all rfl) (Nat.le_of_ble_eq_true rfl) (fun cx C hl9 => ?_)
  show xt_X E cx _ 0 0 0 [some (.ref (E.2.2.2.2.1 i))] [] S
  refine xt_getCS C lkJ0_38 dJ0_coder_7d493_0 ?_
  refine xt_if_eqN (tgt := 13) C dJ0_coder_7d493_3 (by decide) (by decide) (fun c3 => absurd c3 (by decide)) (fun _ => ?_)
  refine xt_aload_n C dJ0_coder_7d493_6 rfl ?_
  refine xt_coderS C hi lkJ0_15 dJ0_coder_7d493_7 ?_
  refine xt_goto (tgt := 14) C dJ0_coder_7d493_10 (by decide) ?_
  exact xt_zret C dJ0_coder_7d493_14 rfl ⟨by decide, by decide⟩ ⟨rfl, rfl⟩
set_option maxRecDepth 20000 in
set_option maxHeartbeats 2000000 in
theorem ct_isLatin1 {i : Nat} (hi : i < 31) : xt_Ct E l yJ0_isLatin1_aae02 cJ0_isLatin1_aae02 1 (some Jvm.ClassFile.FieldType.boolean) 0 0 0 0 [.ref (E.2.2.2.2.1 i)] S (xt_Eq (some (.int (nI 1))) S) := by
  refine xt_body (by decide +kernel) (xt_all rfl) (Nat.le_of_ble_eq_true rfl) (fun cx C hl9 => ?_)
  show xt_X E cx _ 0 0 0 [some (.ref (E.2.2.2.2.1 i))] [] S
  refine xt_getCS C lkJ0_38 dJ0_isLatin1_aae02_0 ?_
  refine xt_if_eqN (tgt := 17) C dJ0_isLatin1_aae02_3 (by decide) (by decide) (fun c3 => absurd c3 (by decide)) (fun _ => ?_)
  refine xt_aload_n C dJ0_isLatin1_aae02_6 rfl ?_
  refine xt_coderS C hi lkJ0_15 dJ0_isLatin1_aae02_7 ?_
  refine xt_if_neN (tgt := 17) C dJ0_isLatin1_aae02_10 (by decide) (by omega) (fun c10 => ?_) (fun c10 => ?_)
  · exact absurd c10 (Nat.lt_irrefl _)
  · refine xt_iconst (v := nI 1) C dJ0_isLatin1_aae02_13 rfl ?_
    refine xt_goto (tgt := 18) C dJ0_isLatin1_aae02_14 (by decide) ?_
    exact xt_zret C dJ0_isLatin1_aae02_18 rfl ⟨by decide, by decide⟩ ⟨rfl, rfl⟩
set_option maxRecDepth 20000 in
set_option maxHeartbeats 2000000 in
theorem ct_isEmpty {i n : Nat} (hi : i < 31) (hn : xt_tl.getD i 0 = n) (hn31 : n < 2 ^ 31) : xt_Ct E l yJ0_isEmpty_aae02 cJ0_isEmpty_aae02 1 (some Jvm.ClassFile.FieldType.boolean) 0 0 0 0 [.ref (E.2.2.2.2.1 i)] S (xt_Eq (some (.int (xt_b (n = 0)))) S) := by
  refine xt_body (by decide +kernel) (xt_all rfl) (Nat.le_of_ble_eq_true rfl) (fun cx C hl9 => ?_)
  show xt_X E cx _ 0 0 0 [some (.ref (E.2.2.2.2.1 i))] [] S
  refine xt_aload_n C dJ0_isEmpty_aae02_0 rfl ?_
  refine xt_valueS C hi lkJ0_9 dJ0_isEmpty_aae02_1 ?_
  refine xt_alenS C hi hn dJ0_isEmpty_aae02_4 ?_
  refine xt_if_neN (tgt := 12) C dJ0_isEmpty_aae02_5 (by decide) (by omega) (fun c5 => ?_) (fun c5 => ?_)
  · refine xt_iconst (v := nI 0) C dJ0_isEmpty_aae02_12 rfl ?_
    exact xt_zret C dJ0_isEmpty_aae02_13 rfl ⟨by decide, by decide⟩ (by first | exact xt_q1 (by omega) | exact xt_q0 (by omega))
  · refine xt_iconst (v := nI 1) C dJ0_isEmpty_aae02_8 rfl ?_
    refine xt_goto (tgt := 13) C dJ0_isEmpty_aae02_9 (by decide) ?_
    exact xt_zret C dJ0_isEmpty_aae02_13 rfl ⟨by decide, by decide⟩ (by first | exact xt_q1 (by omega) | exact xt_q0 (by omega))
set_option maxRecDepth 20000 in
set_option maxHeartbeats 2000000 in
theorem ct_length {i n : Nat} (hi : i < 31) (hn : xt_tl.getD i 0 = n) (hn31 : n < 2 ^ 31) : xt_Ct E l yJ0_length_8abf5 cJ0_length_8abf5 1 (some Jvm.ClassFile.FieldType.int) 1 20 0 0 [.ref (E.2.2.2.2.1 i)] S (xt_Eq (some (.int (nI n))) S) := by
  refine xt_body (by decide +kernel) (xt_all rfl) (Nat.le_of_ble_eq_true rfl) (fun cx C hl9 => ?_)
  show xt_X E cx _ 0 0 0 [some (.ref (E.2.2.2.2.1 i))] [] S
  refine xt_aload_n C dJ0_length_8abf5_0 rfl ?_
  refine xt_valueS C hi lkJ0_9 dJ0_length_8abf5_1 ?_
  refine xt_alenS C hi hn dJ0_length_8abf5_4 ?_
  refine xt_aload_n C dJ0_length_8abf5_5 rfl ?_
  refine xt_cT C mv_J0_coder_7d493 lkJ0_335 (ct_coder hi) rfl hi rfl (by decide) rfl (Nat.le_of_ble_eq_true rfl) dJ0_length_8abf5_6 ?_
  refine xt_ishrN C dJ0_length_8abf5_9 (by omega) (by omega) ?_
  exact xt_iret C dJ0_length_8abf5_10 ⟨by decide, by decide⟩ (by rw [show n / 2 ^ 0 = n from by simp]; exact ⟨rfl, rfl⟩)
set_option maxRecDepth 20000 in
set_option maxHeartbeats 2000000 in
theorem ct_ckp {j n : Nat} (hj : j < n) (hn : n < 2 ^ 31) {v : Value} (hv : v.category = 1) : xt_Ct E l yJ3_checkIndex_8e157 cJ3_checkIndex_8e157 3 (some Jvm.ClassFile.FieldType.int) 0 0 0 0 [.int (nI j), .int (nI n), v] S (xt_Eq (some (.int (nI j))) S) := by
  refine xt_body (by decide +kernel) (fun v9 h9 => by
    rcases List.mem_cons.mp h9 with rfl | h9
    · rfl
    rcases List.mem_cons.mp h9 with rfl | h9
    · rfl
    rcases List.mem_cons.mp h9 with rfl | h9
    · exact hv
    · cases h9) (Nat.le_of_ble_eq_true rfl) (fun cx C hl9 => ?_)
  show xt_X E cx _ 0 0 0 [some (.int (nI j)), some (.int (nI n)), some v] [] S
  refine xt_iload_n C dJ3_checkIndex_8e157_0 rfl ?_
  refine xt_if_ltN (tgt := 9) C dJ3_checkIndex_8e157_1 (by decide) (by omega) ?_
  refine xt_iload_n C dJ3_checkIndex_8e157_4 rfl ?_
  refine xt_iload_n C dJ3_checkIndex_8e157_5 rfl ?_
  refine xt_icmp_ltN (tgt := 16) C dJ3_checkIndex_8e157_6 (by decide) (by omega) (by omega) (fun c6 => ?_) (fun c6 => ?_)
  · refine xt_iload_n C dJ3_checkIndex_8e157_16 rfl ?_
    exact xt_iret C dJ3_checkIndex_8e157_17 ⟨by decide, by decide⟩ ⟨rfl, rfl⟩
  · exact absurd c6 (by omega)
set_option maxRecDepth 20000 in
set_option maxHeartbeats 2000000 in
theorem ct_ck {j n : Nat} (hj : j < n) (hn : n < 2 ^ 31) : xt_Ct E l yJ0_checkIndex_df160 cJ0_checkIndex_df160 2 none 1 22 0 0 [.int (nI j), .int (nI n)] S (xt_Eq none S) := by
  refine xt_body (by decide +kernel) (xt_all rfl) (Nat.le_of_ble_eq_true rfl) (fun cx C hl9 => ?_)
  show xt_X E cx _ 0 0 0 [some (.int (nI j)), some (.int (nI n))] [] S
  refine xt_iload_n C dJ0_checkIndex_df160_0 rfl ?_
  refine xt_iload_n C dJ0_checkIndex_df160_1 rfl ?_
  refine xt_getSF C lkJ0_1053 dJ0_checkIndex_df160_2 (fun v9 hv9 => ?_)
  refine xt_cS C ms_J3_checkIndex_8e157 lkJ0_1059 (ct_ckp hj hn hv9) rfl (by decide) rfl (Nat.le_of_ble_eq_true rfl) dJ0_checkIndex_df160_5 ?_
  refine xt_pop C dJ0_checkIndex_df160_8 rfl ?_
  exact xt_vret C dJ0_checkIndex_df160_9 ⟨by decide, by decide⟩ ⟨rfl, rfl⟩
set_option maxRecDepth 20000 in
set_option maxHeartbeats 2000000 in
theorem ct_L1charAt {i n : Nat} (hi : i < 31) (hn : xt_tl.getD i 0 = n) (hn31 : n < 2 ^ 31) {j : Nat} (hj : j < n) {v : Int32} (hv : (xt_tb.getD i []).getD j 0 = v) (hc : ((v &&& nI 255).toUInt32 % 65536).toInt32 = v) (hnr : narrow .char (.int v) = .int v) : xt_Ct E l yJ1_charAt_3b067 cJ1_charAt_3b067 2 (some Jvm.ClassFile.FieldType.char) 2 43 0 0 [.ref (E.2.2.2.2.2 i), .int (nI j)] S (xt_Eq (some (.int v)) S) := by
  refine xt_body (by decide +kernel) (xt_all rfl) (Nat.le_of_ble_eq_true rfl) (fun cx C hl9 => ?_)
  show xt_X E cx _ 0 0 0 [some (.ref (E.2.2.2.2.2 i)), some (.int (nI j))] [] S
  refine xt_iload_n C dJ1_charAt_3b067_0 rfl ?_
  refine xt_aload_n C dJ1_charAt_3b067_1 rfl ?_
  refine xt_alenS C hi hn dJ1_charAt_3b067_2 ?_
  refine xt_cSn C ms_J0_checkIndex_df160 lkJ1_9 (ct_ck hj hn31) rfl (by decide) rfl (Nat.le_of_ble_eq_true rfl) dJ1_charAt_3b067_3 ?_
  refine xt_aload_n C dJ1_charAt_3b067_6 rfl ?_
  refine xt_iload_n C dJ1_charAt_3b067_7 rfl ?_
  refine xt_baldS C hi hj hn31 hn hv dJ1_charAt_3b067_8 ?_
  refine xt_sipush (v := nI 255) C dJ1_charAt_3b067_9 (by decide) ?_
  refine xt_iand C dJ1_charAt_3b067_12 ?_
  refine xt_i2c C dJ1_charAt_3b067_13 hc ?_
  exact xt_zret C dJ1_charAt_3b067_14 hnr ⟨by decide, by decide⟩ ⟨rfl, rfl⟩
set_option maxRecDepth 20000 in
set_option maxHeartbeats 2000000 in
theorem ct_charAt {i n : Nat} (hi : i < 31) (hn : xt_tl.getD i 0 = n) (hn31 : n < 2 ^ 31) {j : Nat} (hj : j < n) {v : Int32} (hv : (xt_tb.getD i []).getD j 0 = v) (hc : ((v &&& nI 255).toUInt32 % 65536).toInt32 = v) (hnr : narrow .char (.int v) = .int v) : xt_Ct E l yJ0_charAt_5068e cJ0_charAt_5068e 2 (some Jvm.ClassFile.FieldType.char) 4 85 0 0 [.ref (E.2.2.2.2.1 i), .int (nI j)] S (xt_Eq (some (.int v)) S) := by
  refine xt_body (by decide +kernel) (xt_all rfl) (Nat.le_of_ble_eq_true rfl) (fun cx C hl9 => ?_)
  show xt_X E cx _ 0 0 0 [some (.ref (E.2.2.2.2.1 i)), some (.int (nI j))] [] S
  refine xt_aload_n C dJ0_charAt_5068e_0 rfl ?_
  refine xt_cT C mv_J0_isLatin1_aae02 lkJ0_492 (ct_isLatin1 hi) rfl hi rfl (by decide) rfl (Nat.le_of_ble_eq_true rfl) dJ0_charAt_5068e_1 ?_
  refine xt_if_eqN (tgt := 16) C dJ0_charAt_5068e_4 (by decide) (by decide) (fun c4 => absurd c4 (by decide)) (fun _ => ?_)
  refine xt_aload_n C dJ0_charAt_5068e_7 rfl ?_
  refine xt_valueS C hi lkJ0_9 dJ0_charAt_5068e_8 ?_
  refine xt_iload_n C dJ0_charAt_5068e_11 rfl ?_
  refine xt_cS C ms_J1_charAt_3b067 lkJ0_495 (ct_L1charAt hi hn hn31 hj hv hc hnr) rfl (by decide) rfl (Nat.le_of_ble_eq_true rfl) dJ0_charAt_5068e_12 ?_
  exact xt_zret C dJ0_charAt_5068e_15 hnr ⟨by decide, by decide⟩ ⟨rfl, rfl⟩
end XC18
