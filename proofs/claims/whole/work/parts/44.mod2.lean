/-! THE MODEL: a line is split, joined; a plane's layer -/
section XM2
variable {E : xt_Ev} {l : Launch} {S : xt_St}
def xt_mo (a b : Int32) : Int32 := if a = 0 ∧ b = 0 then nI 0 else nI 1
theorem xt_mo_l {a b : Int32} (h : ¬ a = 0) : xt_mo a b = nI 1 := if_neg (fun z => h z.1)
theorem xt_mo_r {a b : Int32} (h : ¬ b = 0) : xt_mo a b = nI 1 := if_neg (fun z => h z.2)
theorem xt_mo_0 {a b : Int32} (h1 : a = 0) (h2 : b = 0) : xt_mo a b = nI 0 := if_pos ⟨h1, h2⟩
/-- a line of masks is split -/
def xt_msp (n : Nat) (g : Nat → Int32) : Nat → Int32 := fun i => if n ≤ i then g i else if i < xt_lo n 1 then (if 2 * i + 1 < n then xt_mo (g (2 * i)) (g (2 * i + 1)) else g (2 * i)) else xt_mo (g (2 * (i - xt_lo n 1))) (g (2 * (i - xt_lo n 1) + 1))
theorem xt_nz {z : Nat} (h : z ≤ 1) : vp_nar .boolean (nI z) = nI z := by
  match z, h with
  | 0, _ => decide
  | 1, _ => decide
theorem xt_nar01 {x : Int32} (h : x = nI 0 ∨ x = nI 1) : vp_nar .boolean x = x := by
  rcases h with rfl | rfl
  · exact xt_nz (by decide)
  · exact xt_nz (by decide)
theorem xt_b1' {R : xt_St} {i j p : Nat} {f m : Nat → Int32} {v : Int32} (h : i ≠ j) : xt_sA (xt_sA (xt_sA R i f) j m) i (upd ((xt_sA (xt_sA R i f) j m).2.1 i) p v) = xt_sA (xt_sA R i (upd f p v)) j m := by
  rw [xt_sA_n h, xt_sA_s, xt_sA_cm h, xt_sA_sA, xt_sA_cm h]
theorem xt_b2' {R : xt_St} {i j p : Nat} {f m : Nat → Int32} {v : Int32} : xt_sA (xt_sA (xt_sA R i f) j m) j (upd ((xt_sA (xt_sA R i f) j m).2.1 j) p v) = xt_sA (xt_sA R i f) j (upd m p v) := by
  rw [xt_sA_s, xt_sA_sA]
set_option maxRecDepth 20000 in
set_option maxHeartbeats 2000000 in
theorem ct_mlayer {p m bo : Nat} (hp : p < 64) (hm : S.2.1 60 p = nI m) (hm1 : m ≤ 1) (hb4 : S.2.1 50 4 = nI bo) (hbo : bo ≤ 8) {pl : Nat} (hpl : pl ≤ 8) : xt_Ct E l yX6_layer cX6_layer 3 (some Jvm.ClassFile.FieldType.int) 1 21 0 0 [.ref (E.1 49), .int (nI p), .int (nI pl)] S (xt_Eq (some (.int (nI (xt_lay m bo pl)))) S) := by
  refine xt_body (by decide +kernel) (xt_all rfl) (Nat.le_of_ble_eq_true rfl) (fun cx C hl9 => ?_)
  show xt_X E cx _ 0 0 0 [some (.ref (E.1 49)), some (.int (nI p)), some (.int (nI pl))] [] S
  refine xt_aload_n C dX6_layer_0 rfl ?_
  refine xt_get (f := 22) C xt_u6 rfl (by decide) (xt_cl49 _ _) (by decide) lkX6_47 rfl dX6_layer_1 ?_
  refine xt_iload_n C dX6_layer_4 rfl ?_
  refine xt_zaldN C (by decide) (xt_cl60 _) (by omega) (by decide) hm dX6_layer_5 ?_
  refine xt_if_eqN (tgt := 27) C dX6_layer_6 (by decide) (by omega) (fun c6 => ?_) (fun c6 => ?_)
  · refine xt_bipush (v := nI 8) C dX6_layer_27 (by decide) ?_
    refine xt_iload_n C dX6_layer_29 rfl ?_
    refine xt_isubN C dX6_layer_30 (by omega) ?_
    refine xt_iret C dX6_layer_31 ⟨by decide, by decide⟩ ?_
    first
    | exact xt_qI (by unfold xt_lay; rw [if_pos (by omega)])
    | exact xt_qI (by unfold xt_lay; rw [if_neg (by omega)])
  · refine xt_iconst (v := nI 0) C dX6_layer_9 rfl ?_
    refine xt_bipush (v := nI 8) C dX6_layer_10 (by decide) ?_
    refine xt_iload_n C dX6_layer_12 rfl ?_
    refine xt_isubN C dX6_layer_13 (by omega) ?_
    refine xt_aload_n C dX6_layer_14 rfl ?_
    refine xt_get (f := 1) C xt_u6 rfl (by decide) (xt_cl49 _ _) (by decide) lkX6_9 rfl dX6_layer_15 ?_
    refine xt_iconst (v := nI 4) C dX6_layer_18 rfl ?_
    refine xt_ialdN C (by decide) (xt_cl50 _) (by decide) (by decide) hb4 dX6_layer_19 ?_
    refine xt_isub C dX6_layer_20 ?_
    refine xt_mmax C lkX6_126 mw_max rfl ⟨by decide, Nat.le_of_ble_eq_true rfl, by decide, by decide⟩ dX6_layer_21 ?_
    rw [xt_m0s (by omega) (by omega)]
    refine xt_goto (tgt := 31) C dX6_layer_24 (by decide) ?_
    refine xt_iret C dX6_layer_31 ⟨by decide, by decide⟩ ?_
    first
    | exact xt_qI (by unfold xt_lay; rw [if_pos (by omega)])
    | exact xt_qI (by unfold xt_lay; rw [if_neg (by omega)])
theorem xt_s4k {a b : Nat → Int32} : xt_sA (xt_sA (xt_sA (xt_sA S 62 a) 63 b) 59 (S.2.1 59)) 60 (S.2.1 60) = xt_sA (xt_sA S 62 a) 63 b := by
  have h1 : (xt_sA (xt_sA S 62 a) 63 b).2.1 59 = S.2.1 59 := by rw [xt_sA_n (by decide), xt_sA_n (by decide)]
  have h2 : (xt_sA (xt_sA S 62 a) 63 b).2.1 60 = S.2.1 60 := by rw [xt_sA_n (by decide), xt_sA_n (by decide)]
  rw [← h1, xt_sA_self, ← h2, xt_sA_self]
set_option maxRecDepth 20000 in
set_option maxHeartbeats 2000000 in
theorem ct_splits {s t n : Nat} (hn : n ≤ 8) (hn1 : 1 ≤ n) (ht : 0 < t) (hb : ∀ i, i < n → s + i * t < 64) (h01 : ∀ i, i < n → S.2.1 60 (s + i * t) = nI 0 ∨ S.2.1 60 (s + i * t) = nI 1) : xt_Ct E l yX6_splits cX6_splits 9 none 0 0 0 0 [.ref (E.1 49), .int (nI s), .int (nI t), .int (nI n)] S (xt_Ep none (fun S9 => ∃ r9 q9 f9 m9, S9 = xt_sA (xt_sA (xt_sA (xt_sA S 62 r9) 63 q9) 59 f9) 60 m9 ∧ xt_pt s t n (S.2.1 59) f9 (fun _ => True) (xt_sp n (fun j => S.2.1 59 (s + j * t))) ∧ xt_pt s t n (S.2.1 60) m9 (fun _ => True) (xt_msp n (fun j => S.2.1 60 (s + j * t))))) := by
  refine xt_body (by decide +kernel) (xt_all rfl) (Nat.le_of_ble_eq_true rfl) (fun cx C hl9 => ?_)
  show xt_X E cx _ 0 0 0 [some (.ref (E.1 49)), some (.int (nI s)), some (.int (nI t)), some (.int (nI n)), none, none, none, none, none] [] S
  have hlo : xt_lo n 1 ≤ n := xt_lo_le (by omega)
  have hlo2 : n ≤ 2 * xt_lo n 1 ∧ 2 * xt_lo n 1 ≤ n + 1 := by unfold xt_lo; omega
  have loop2 : ∀ (d i : Nat) (f m : Nat → Int32), i ≤ (n / 2) → xt_pt s t n (S.2.1 59) f (fun j => j < i ∨ (xt_lo n 1 ≤ j ∧ j < xt_lo n 1 + i)) (xt_sp n (fun j => S.2.1 59 (s + j * t))) → xt_pt s t n (S.2.1 60) m (fun j => j < i ∨ (xt_lo n 1 ≤ j ∧ j < xt_lo n 1 + i)) (xt_msp n (fun j => S.2.1 60 (s + j * t))) → (n / 2) + 1 ≤ i + d → xt_X E cx (xt_ZM E cx 0 0 (xt_Ep none (fun S9 => ∃ r9 q9 f9 m9, S9 = xt_sA (xt_sA (xt_sA (xt_sA S 62 r9) 63 q9) 59 f9) 60 m9 ∧ xt_pt s t n (S.2.1 59) f9 (fun _ => True) (xt_sp n (fun j => S.2.1 59 (s + j * t))) ∧ xt_pt s t n (S.2.1 60) m9 (fun _ => True) (xt_msp n (fun j => S.2.1 60 (s + j * t)))))) 0 0 61 [some (.ref (E.1 49)), some (.int (nI s)), some (.int (nI t)), some (.int (nI n)), some (.int (nI (xt_lo n 1))), some (.int (nI i)), none, none, none] [] (xt_sA (xt_sA (xt_sA (xt_sA S 62 (xt_take (S.2.1 62) (S.2.1 59) s t n)) 63 (xt_take (S.2.1 63) (S.2.1 60) s t n)) 59 f) 60 m) := by
    intro d
    induction d with
    | zero => intro i f m h0i hf hm h1i; exact absurd h1i (by omega)
    | succ d ih =>
      intro i f m h0i hf hm h1i
      have j126 : 2 * i + 1 < n → ∀ (z : Nat), z ≤ 1 → xt_mo (S.2.1 60 (s + 2 * i * t)) (S.2.1 60 (s + (2 * i + 1) * t)) = nI z → xt_X E cx (xt_ZM E cx 0 0 (xt_Ep none (fun S9 => ∃ r9 q9 f9 m9, S9 = xt_sA (xt_sA (xt_sA (xt_sA S 62 r9) 63 q9) 59 f9) 60 m9 ∧ xt_pt s t n (S.2.1 59) f9 (fun _ => True) (xt_sp n (fun j => S.2.1 59 (s + j * t))) ∧ xt_pt s t n (S.2.1 60) m9 (fun _ => True) (xt_msp n (fun j => S.2.1 60 (s + j * t)))))) 0 0 126 [some (.ref (E.1 49)), some (.int (nI s)), some (.int (nI t)), some (.int (nI n)), some (.int (nI (xt_lo n 1))), some (.int (nI i)), some (.int (S.2.1 59 (s + 2 * i * t))), some (.int (S.2.1 59 (s + (2 * i + 1) * t))), none] [.int (nI z)] (xt_sA (xt_sA (xt_sA (xt_sA S 62 (xt_take (S.2.1 62) (S.2.1 59) s t n)) 63 (xt_take (S.2.1 63) (S.2.1 60) s t n)) 59 f) 60 m) := by
        intro h2i z hz hmo
        refine xt_istore (lo' := [_, _, _, _, _, _, _, _, _]) C dX6_splits_126 (Nat.le_of_ble_eq_true rfl) rfl rfl ?_
        refine xt_aload_n C dX6_splits_128 rfl ?_
        refine xt_get (f := 21) C xt_u6 rfl (by decide) (xt_cl49 _ _) (by decide) lkX6_44 rfl dX6_splits_129 ?_
        refine xt_iload_n C dX6_splits_132 rfl ?_
        refine xt_iload_n C dX6_splits_133 rfl ?_
        refine xt_iload C dX6_splits_134 rfl ?_
        refine xt_imulN C dX6_splits_136 ?_
        rw [Nat.mul_comm t i]
        refine xt_iaddN C dX6_splits_137 ?_
        refine xt_iload C dX6_splits_138 rfl ?_
        refine xt_iload C dX6_splits_140 rfl ?_
        refine xt_iadd C dX6_splits_142 ?_
        refine xt_iconst (v := nI 1) C dX6_splits_143 rfl ?_
        refine xt_ishr C dX6_splits_144 ?_
        rw [xt_hf]
        refine xt_iastN C (by decide) (xt_cl59 _) (hb _ (by omega)) (by decide) dX6_splits_145 ?_
        rw [xt_b1' (by decide)]
        refine xt_aload_n C dX6_splits_146 rfl ?_
        refine xt_get (f := 21) C xt_u6 rfl (by decide) (xt_cl49 _ _) (by decide) lkX6_44 rfl dX6_splits_147 ?_
        refine xt_iload_n C dX6_splits_150 rfl ?_
        refine xt_iload_n C dX6_splits_151 rfl ?_
        refine xt_iload C dX6_splits_152 rfl ?_
        refine xt_iload C dX6_splits_154 rfl ?_
        refine xt_iaddN C dX6_splits_156 ?_
        refine xt_imulN C dX6_splits_157 ?_
        rw [Nat.mul_comm t (xt_lo n 1 + i)]
        refine xt_iaddN C dX6_splits_158 ?_
        refine xt_iload C dX6_splits_159 rfl ?_
        refine xt_iload C dX6_splits_161 rfl ?_
        refine xt_isub C dX6_splits_163 ?_
        refine xt_iastN C (by decide) (xt_cl59 _) (hb _ (by omega)) (by decide) dX6_splits_164 ?_
        rw [xt_b1' (by decide)]
        refine xt_aload_n C dX6_splits_165 rfl ?_
        refine xt_get (f := 22) C xt_u6 rfl (by decide) (xt_cl49 _ _) (by decide) lkX6_47 rfl dX6_splits_166 ?_
        refine xt_iload_n C dX6_splits_169 rfl ?_
        refine xt_iload_n C dX6_splits_170 rfl ?_
        refine xt_iload C dX6_splits_171 rfl ?_
        refine xt_imulN C dX6_splits_173 ?_
        rw [Nat.mul_comm t i]
        refine xt_iaddN C dX6_splits_174 ?_
        refine xt_iload C dX6_splits_175 rfl ?_
        refine xt_zastN C (by decide) (xt_cl60 _) (hb _ (by omega)) (by decide) dX6_splits_177 ?_
        rw [xt_b2', xt_nz hz]
        refine xt_aload_n C dX6_splits_178 rfl ?_
        refine xt_get (f := 22) C xt_u6 rfl (by decide) (xt_cl49 _ _) (by decide) lkX6_47 rfl dX6_splits_179 ?_
        refine xt_iload_n C dX6_splits_182 rfl ?_
        refine xt_iload_n C dX6_splits_183 rfl ?_
        refine xt_iload C dX6_splits_184 rfl ?_
        refine xt_iload C dX6_splits_186 rfl ?_
        refine xt_iaddN C dX6_splits_188 ?_
        refine xt_imulN C dX6_splits_189 ?_
        rw [Nat.mul_comm t (xt_lo n 1 + i)]
        refine xt_iaddN C dX6_splits_190 ?_
        refine xt_iload C dX6_splits_191 rfl ?_
        refine xt_zastN C (by decide) (xt_cl60 _) (hb _ (by omega)) (by decide) dX6_splits_193 ?_
        rw [xt_b2', xt_nz hz]
        refine xt_iincN (z := 1) (lo' := [_, _, _, _, _, _, _, _, _]) C dX6_splits_194 rfl rfl rfl ?_
        refine xt_goto (tgt := 61) C dX6_splits_197 (by decide) ?_
        have hp1 := xt_pt_put ht (k := i) (v := xt_half ((S.2.1 59 (s + 2 * i * t)) + (S.2.1 59 (s + (2 * i + 1) * t)))) (by omega) (by unfold xt_sp; rw [if_neg (by omega), if_pos (by omega), if_pos (by omega)]) hf
        have hp2 := xt_pt_put ht (k := xt_lo n 1 + i) (v := (S.2.1 59 (s + 2 * i * t)) - (S.2.1 59 (s + (2 * i + 1) * t))) (by omega) (by unfold xt_sp; rw [if_neg (by omega), if_neg (by omega), show xt_lo n 1 + i - xt_lo n 1 = i by omega]) hp1
        have hq1 := xt_pt_put ht (k := i) (v := nI z) (by omega) (by rw [← hmo]; unfold xt_msp; rw [if_neg (by omega), if_pos (by omega), if_pos (by omega)]) hm
        have hq2 := xt_pt_put ht (k := xt_lo n 1 + i) (v := nI z) (by omega) (by rw [← hmo]; unfold xt_msp; rw [if_neg (by omega), if_neg (by omega), show xt_lo n 1 + i - xt_lo n 1 = i by omega]) hq1
        exact xt_fg (by repeat' constructor) (ih (i + 1) _ _ (by omega) (xt_pt_iff hp2 (fun j hj => by omega)) (xt_pt_iff hq2 (fun j hj => by omega)) (by omega))
      refine xt_iconst (v := nI 2) C dX6_splits_61 rfl ?_
      refine xt_iload C dX6_splits_62 rfl ?_
      refine xt_imulN C dX6_splits_64 ?_
      refine xt_iconst (v := nI 1) C dX6_splits_65 rfl ?_
      refine xt_iaddN C dX6_splits_66 ?_
      refine xt_iload_n C dX6_splits_67 rfl ?_
      refine xt_icmp_geN (tgt := 200) C dX6_splits_68 (by decide) (by omega) (by omega) (fun c68 => ?_) (fun c68 => ?_)
      · refine xt_iload_n C dX6_splits_200 rfl ?_
        refine xt_iconst (v := nI 2) C dX6_splits_201 rfl ?_
        refine xt_iremN C dX6_splits_202 (by omega) (by omega) (by omega) ?_
        refine xt_iconst (v := nI 1) C dX6_splits_203 rfl ?_
        refine xt_icmp_neN (tgt := 249) C dX6_splits_204 (by decide) (by omega) (by omega) (fun c204 => ?_) (fun c204 => ?_)
        · have hF := xt_pt_iff (D' := fun _ => True) hf (fun j hj => ⟨fun _ => trivial, fun _ => by omega⟩)
          have hG := xt_pt_iff (D' := fun _ => True) hm (fun j hj => ⟨fun _ => trivial, fun _ => by omega⟩)
          exact xt_vret C dX6_splits_249 ⟨by decide, by decide⟩ ⟨rfl, _, _, _, _, rfl, hF, hG⟩
        · have hF1 := xt_pt_put ht (k := xt_lo n 1 - 1) (v := S.2.1 59 (s + 2 * (xt_lo n 1 - 1) * t)) (by omega) (by unfold xt_sp; rw [if_neg (by omega), if_pos (by omega), if_neg (by omega)]) hf
          have hG1 := xt_pt_put ht (k := xt_lo n 1 - 1) (v := S.2.1 60 (s + 2 * (xt_lo n 1 - 1) * t)) (by omega) (by unfold xt_msp; rw [if_neg (by omega), if_pos (by omega), if_neg (by omega)]) hm
          have hF := xt_pt_iff (D' := fun _ => True) hF1 (fun j hj => ⟨fun _ => trivial, fun _ => by omega⟩)
          have hG := xt_pt_iff (D' := fun _ => True) hG1 (fun j hj => ⟨fun _ => trivial, fun _ => by omega⟩)
          refine xt_aload_n C dX6_splits_207 rfl ?_
          refine xt_get (f := 21) C xt_u6 rfl (by decide) (xt_cl49 _ _) (by decide) lkX6_44 rfl dX6_splits_208 ?_
          refine xt_iload_n C dX6_splits_211 rfl ?_
          refine xt_iload_n C dX6_splits_212 rfl ?_
          refine xt_iload C dX6_splits_213 rfl ?_
          refine xt_iconst (v := nI 1) C dX6_splits_215 rfl ?_
          refine xt_isubN C dX6_splits_216 (by omega) ?_
          refine xt_imulN C dX6_splits_217 ?_
          rw [Nat.mul_comm t (xt_lo n 1 - 1)]
          refine xt_iaddN C dX6_splits_218 ?_
          refine xt_aload_n C dX6_splits_219 rfl ?_
          refine xt_get (f := 24) C xt_u6 rfl (by decide) (xt_cl49 _ _) (by decide) lkX6_54 rfl dX6_splits_220 ?_
          refine xt_iload_n C dX6_splits_223 rfl ?_
          refine xt_iconst (v := nI 1) C dX6_splits_224 rfl ?_
          refine xt_isubN C dX6_splits_225 (by omega) ?_
          refine xt_ialdN C (by decide) (xt_cl62 _) (by omega) (by decide) (show _ = S.2.1 59 (s + 2 * (xt_lo n 1 - 1) * t) from by rw [xt_sA_n (by decide), xt_sA_n (by decide), xt_sA_n (by decide), xt_sA_s, show n - 1 = 2 * (xt_lo n 1 - 1) by omega]; exact xt_take_at (by omega)) dX6_splits_226 ?_
          refine xt_iastN C (by decide) (xt_cl59 _) (hb _ (by omega)) (by decide) dX6_splits_227 ?_
          rw [xt_b1' (by decide)]
          refine xt_aload_n C dX6_splits_228 rfl ?_
          refine xt_get (f := 22) C xt_u6 rfl (by decide) (xt_cl49 _ _) (by decide) lkX6_47 rfl dX6_splits_229 ?_
          refine xt_iload_n C dX6_splits_232 rfl ?_
          refine xt_iload_n C dX6_splits_233 rfl ?_
          refine xt_iload C dX6_splits_234 rfl ?_
          refine xt_iconst (v := nI 1) C dX6_splits_236 rfl ?_
          refine xt_isubN C dX6_splits_237 (by omega) ?_
          refine xt_imulN C dX6_splits_238 ?_
          rw [Nat.mul_comm t (xt_lo n 1 - 1)]
          refine xt_iaddN C dX6_splits_239 ?_
          refine xt_aload_n C dX6_splits_240 rfl ?_
          refine xt_get (f := 25) C xt_u6 rfl (by decide) (xt_cl49 _ _) (by decide) lkX6_57 rfl dX6_splits_241 ?_
          refine xt_iload_n C dX6_splits_244 rfl ?_
          refine xt_iconst (v := nI 1) C dX6_splits_245 rfl ?_
          refine xt_isubN C dX6_splits_246 (by omega) ?_
          refine xt_zaldN C (by decide) (xt_cl63 _) (by omega) (by decide) (show _ = S.2.1 60 (s + 2 * (xt_lo n 1 - 1) * t) from by rw [xt_sA_n (by decide), xt_sA_n (by decide), xt_sA_s, show n - 1 = 2 * (xt_lo n 1 - 1) by omega]; exact xt_take_at (by omega)) dX6_splits_247 ?_
          refine xt_zastN C (by decide) (xt_cl60 _) (hb _ (by omega)) (by decide) dX6_splits_248 ?_
          rw [xt_b2', xt_nar01 (h01 (2 * (xt_lo n 1 - 1)) (by omega))]
          exact xt_vret C dX6_splits_249 ⟨by decide, by decide⟩ ⟨rfl, _, _, _, _, rfl, hF, hG⟩
      · refine xt_aload_n C dX6_splits_71 rfl ?_
        refine xt_get (f := 24) C xt_u6 rfl (by decide) (xt_cl49 _ _) (by decide) lkX6_54 rfl dX6_splits_72 ?_
        refine xt_iconst (v := nI 2) C dX6_splits_75 rfl ?_
        refine xt_iload C dX6_splits_76 rfl ?_
        refine xt_imulN C dX6_splits_78 ?_
        refine xt_ialdN C (by decide) (xt_cl62 _) (by omega) (by decide) (show _ = S.2.1 59 (s + 2 * i * t) from by rw [xt_sA_n (by decide), xt_sA_n (by decide), xt_sA_n (by decide), xt_sA_s]; exact xt_take_at (by omega)) dX6_splits_79 ?_
        refine xt_istore (lo' := [_, _, _, _, _, _, _, _, _]) C dX6_splits_80 (Nat.le_of_ble_eq_true rfl) rfl rfl ?_
        refine xt_aload_n C dX6_splits_82 rfl ?_
        refine xt_get (f := 24) C xt_u6 rfl (by decide) (xt_cl49 _ _) (by decide) lkX6_54 rfl dX6_splits_83 ?_
        refine xt_iconst (v := nI 2) C dX6_splits_86 rfl ?_
        refine xt_iload C dX6_splits_87 rfl ?_
        refine xt_imulN C dX6_splits_89 ?_
        refine xt_iconst (v := nI 1) C dX6_splits_90 rfl ?_
        refine xt_iaddN C dX6_splits_91 ?_
        refine xt_ialdN C (by decide) (xt_cl62 _) (by omega) (by decide) (show _ = S.2.1 59 (s + (2 * i + 1) * t) from by rw [xt_sA_n (by decide), xt_sA_n (by decide), xt_sA_n (by decide), xt_sA_s]; exact xt_take_at (by omega)) dX6_splits_92 ?_
        refine xt_istore (lo' := [_, _, _, _, _, _, _, _, _]) C dX6_splits_93 (Nat.le_of_ble_eq_true rfl) rfl rfl ?_
        refine xt_aload_n C dX6_splits_95 rfl ?_
        refine xt_get (f := 25) C xt_u6 rfl (by decide) (xt_cl49 _ _) (by decide) lkX6_57 rfl dX6_splits_96 ?_
        refine xt_iconst (v := nI 2) C dX6_splits_99 rfl ?_
        refine xt_iload C dX6_splits_100 rfl ?_
        refine xt_imulN C dX6_splits_102 ?_
        refine xt_zaldN C (by decide) (xt_cl63 _) (by omega) (by decide) (show _ = S.2.1 60 (s + 2 * i * t) from by rw [xt_sA_n (by decide), xt_sA_n (by decide), xt_sA_s]; exact xt_take_at (by omega)) dX6_splits_103 ?_
        refine xt_if_ne (tgt := 121) C dX6_splits_104 (by decide) (fun c104 => ?_) (fun c104 => ?_)
        · refine xt_iconst (v := nI 1) C dX6_splits_121 rfl ?_
          refine xt_goto (tgt := 126) C dX6_splits_122 (by decide) ?_
          have hmo9 : xt_mo (S.2.1 60 (s + 2 * i * t)) (S.2.1 60 (s + (2 * i + 1) * t)) = nI 1 := by
            first
            | exact xt_mo_l c104
            | exact xt_mo_r c118
          exact xt_fg (by repeat' constructor) (j126 (by omega) 1 (by decide) hmo9)
        · refine xt_aload_n C dX6_splits_107 rfl ?_
          refine xt_get (f := 25) C xt_u6 rfl (by decide) (xt_cl49 _ _) (by decide) lkX6_57 rfl dX6_splits_108 ?_
          refine xt_iconst (v := nI 2) C dX6_splits_111 rfl ?_
          refine xt_iload C dX6_splits_112 rfl ?_
          refine xt_imulN C dX6_splits_114 ?_
          refine xt_iconst (v := nI 1) C dX6_splits_115 rfl ?_
          refine xt_iaddN C dX6_splits_116 ?_
          refine xt_zaldN C (by decide) (xt_cl63 _) (by omega) (by decide) (show _ = S.2.1 60 (s + (2 * i + 1) * t) from by rw [xt_sA_n (by decide), xt_sA_n (by decide), xt_sA_s]; exact xt_take_at (by omega)) dX6_splits_117 ?_
          refine xt_if_eq (tgt := 125) C dX6_splits_118 (by decide) (fun c118 => ?_) (fun c118 => ?_)
          · refine xt_iconst (v := nI 0) C dX6_splits_125 rfl ?_
            exact xt_fg (by repeat' constructor) (j126 (by omega) 0 (by decide) (xt_mo_0 c104 c118))
          · refine xt_iconst (v := nI 1) C dX6_splits_121 rfl ?_
            refine xt_goto (tgt := 126) C dX6_splits_122 (by decide) ?_
            have hmo9 : xt_mo (S.2.1 60 (s + 2 * i * t)) (S.2.1 60 (s + (2 * i + 1) * t)) = nI 1 := by
              first
              | exact xt_mo_l c104
              | exact xt_mo_r c118
            exact xt_fg (by repeat' constructor) (j126 (by omega) 1 (by decide) hmo9)
  have loop1 : ∀ (d i : Nat), i ≤ n →  n + 1 ≤ i + d → xt_X E cx (xt_ZM E cx 0 0 (xt_Ep none (fun S9 => ∃ r9 q9 f9 m9, S9 = xt_sA (xt_sA (xt_sA (xt_sA S 62 r9) 63 q9) 59 f9) 60 m9 ∧ xt_pt s t n (S.2.1 59) f9 (fun _ => True) (xt_sp n (fun j => S.2.1 59 (s + j * t))) ∧ xt_pt s t n (S.2.1 60) m9 (fun _ => True) (xt_msp n (fun j => S.2.1 60 (s + j * t)))))) 0 0 10 [some (.ref (E.1 49)), some (.int (nI s)), some (.int (nI t)), some (.int (nI n)), some (.int (nI (xt_lo n 1))), some (.int (nI i)), none, none, none] [] (xt_sA (xt_sA S 62 (xt_take (S.2.1 62) (S.2.1 59) s t i)) 63 (xt_take (S.2.1 63) (S.2.1 60) s t i)) := by
    intro d
    induction d with
    | zero => intro i  h0i  h1i; exact absurd h1i (by omega)
    | succ d ih =>
      intro i  h0i  h1i
      refine xt_iload C dX6_splits_10 rfl ?_
      refine xt_iload_n C dX6_splits_12 rfl ?_
      refine xt_icmp_geN (tgt := 58) C dX6_splits_13 (by decide) (by omega) (by omega) (fun c13 => ?_) (fun c13 => ?_)
      · refine xt_iconst (v := nI 0) C dX6_splits_58 rfl ?_
        refine xt_istore (lo' := [_, _, _, _, _, _, _, _, _]) C dX6_splits_59 (Nat.le_of_ble_eq_true rfl) rfl rfl ?_
        have hi9 : i = n := by omega
        subst hi9
        have h9 := loop2 (i / 2 + 1) 0 (S.2.1 59) (S.2.1 60) (by omega) (xt_pt_iff xt_pt_0 (fun j hj => ⟨False.elim, fun h => by omega⟩)) (xt_pt_iff xt_pt_0 (fun j hj => ⟨False.elim, fun h => by omega⟩)) (by omega)
        rw [show xt_sA (xt_sA (xt_sA (xt_sA S 62 (xt_take (S.2.1 62) (S.2.1 59) s t i)) 63 (xt_take (S.2.1 63) (S.2.1 60) s t i)) 59 (S.2.1 59)) 60 (S.2.1 60) = xt_sA (xt_sA S 62 (xt_take (S.2.1 62) (S.2.1 59) s t i)) 63 (xt_take (S.2.1 63) (S.2.1 60) s t i) from xt_s4k] at h9
        exact xt_fg (by repeat' constructor) h9
      · refine xt_aload_n C dX6_splits_16 rfl ?_
        refine xt_get (f := 24) C xt_u6 rfl (by decide) (xt_cl49 _ _) (by decide) lkX6_54 rfl dX6_splits_17 ?_
        refine xt_iload C dX6_splits_20 rfl ?_
        refine xt_aload_n C dX6_splits_22 rfl ?_
        refine xt_get (f := 21) C xt_u6 rfl (by decide) (xt_cl49 _ _) (by decide) lkX6_44 rfl dX6_splits_23 ?_
        refine xt_iload_n C dX6_splits_26 rfl ?_
        refine xt_iload_n C dX6_splits_27 rfl ?_
        refine xt_iload C dX6_splits_28 rfl ?_
        refine xt_imulN C dX6_splits_30 ?_
        rw [Nat.mul_comm t i]
        refine xt_iaddN C dX6_splits_31 ?_
        refine xt_ialdN C (by decide) (xt_cl59 _) (hb i (by omega)) (by decide) (show _ = S.2.1 59 (s + i * t) from by rw [xt_sA_n (by decide), xt_sA_n (by decide)]) dX6_splits_32 ?_
        refine xt_iastN C (by decide) (xt_cl62 _) (by omega) (by decide) dX6_splits_33 ?_
        rw [xt_b1' (by decide)]
        refine xt_aload_n C dX6_splits_34 rfl ?_
        refine xt_get (f := 25) C xt_u6 rfl (by decide) (xt_cl49 _ _) (by decide) lkX6_57 rfl dX6_splits_35 ?_
        refine xt_iload C dX6_splits_38 rfl ?_
        refine xt_aload_n C dX6_splits_40 rfl ?_
        refine xt_get (f := 22) C xt_u6 rfl (by decide) (xt_cl49 _ _) (by decide) lkX6_47 rfl dX6_splits_41 ?_
        refine xt_iload_n C dX6_splits_44 rfl ?_
        refine xt_iload_n C dX6_splits_45 rfl ?_
        refine xt_iload C dX6_splits_46 rfl ?_
        refine xt_imulN C dX6_splits_48 ?_
        rw [Nat.mul_comm t i]
        refine xt_iaddN C dX6_splits_49 ?_
        refine xt_zaldN C (by decide) (xt_cl60 _) (hb i (by omega)) (by decide) (show _ = S.2.1 60 (s + i * t) from by rw [xt_sA_n (by decide), xt_sA_n (by decide)]) dX6_splits_50 ?_
        refine xt_zastN C (by decide) (xt_cl63 _) (by omega) (by decide) dX6_splits_51 ?_
        rw [xt_b2', xt_nar01 (h01 i (by omega)), xt_take_s, xt_take_s]
        refine xt_iincN (z := 1) (lo' := [_, _, _, _, _, _, _, _, _]) C dX6_splits_52 rfl rfl rfl ?_
        refine xt_goto (tgt := 10) C dX6_splits_55 (by decide) ?_
        exact xt_fg (by repeat' constructor) (ih (i + 1) (by omega) (by omega))
  refine xt_iload_n C dX6_splits_0 rfl ?_
  refine xt_iconst (v := nI 1) C dX6_splits_1 rfl ?_
  refine xt_iaddN C dX6_splits_2 ?_
  refine xt_iconst (v := nI 2) C dX6_splits_3 rfl ?_
  refine xt_idivN C dX6_splits_4 (by omega) (by omega) (by omega) ?_
  rw [xt_lo1]
  refine xt_istore (lo' := [_, _, _, _, _, _, _, _, _]) C dX6_splits_5 (Nat.le_of_ble_eq_true rfl) rfl rfl ?_
  refine xt_iconst (v := nI 0) C dX6_splits_7 rfl ?_
  refine xt_istore (lo' := [_, _, _, _, _, _, _, _, _]) C dX6_splits_8 (Nat.le_of_ble_eq_true rfl) rfl rfl ?_
  have h9 := loop1 (n + 1) 0 (by omega) (by omega)
  rw [xt_take_0, xt_take_0, xt_sA_self, xt_sA_self] at h9
  exact xt_fg (by repeat' constructor) h9
theorem xt_s2k {a : Nat → Int32} : xt_sA (xt_sA S 62 a) 61 (S.2.1 61) = xt_sA S 62 a := by
  have h1 : (xt_sA S 62 a).2.1 61 = S.2.1 61 := xt_sA_n (by decide)
  rw [← h1, xt_sA_self]
set_option maxRecDepth 20000 in
set_option maxHeartbeats 2000000 in
theorem ct_mjoins {s t n : Nat} (hn : n ≤ 8) (hn1 : 1 ≤ n) (ht : 0 < t) (hb : ∀ i, i < n → s + i * t < 64) : xt_Ct E l yX6_joins cX6_joins 7 none 0 0 0 0 [.ref (E.1 49), .int (nI s), .int (nI t), .int (nI n)] S (xt_Ep none (fun S9 => ∃ r9 f9, S9 = xt_sA (xt_sA S 62 r9) 61 f9 ∧ xt_pt s t n (S.2.1 61) f9 (fun _ => True) (xt_jl 0 n (fun j => S.2.1 61 (s + j * t))))) := by
  refine xt_body (by decide +kernel) (xt_all rfl) (Nat.le_of_ble_eq_true rfl) (fun cx C hl9 => ?_)
  show xt_X E cx _ 0 0 0 [some (.ref (E.1 49)), some (.int (nI s)), some (.int (nI t)), some (.int (nI n)), none, none, none] [] S
  have hlo : xt_lo n 1 ≤ n := xt_lo_le (by omega)
  have hlo2 : n ≤ 2 * xt_lo n 1 ∧ 2 * xt_lo n 1 ≤ n + 1 := by unfold xt_lo; omega
  have loop2 : ∀ (d i : Nat) (f : Nat → Int32), i ≤ (n / 2) → xt_pt s t n (S.2.1 61) f (fun j => j < 2 * i) (xt_jl 0 n (fun j => S.2.1 61 (s + j * t))) → (n / 2) + 1 ≤ i + d → xt_X E cx (xt_ZM E cx 0 0 (xt_Ep none (fun S9 => ∃ r9 f9, S9 = xt_sA (xt_sA S 62 r9) 61 f9 ∧ xt_pt s t n (S.2.1 61) f9 (fun _ => True) (xt_jl 0 n (fun j => S.2.1 61 (s + j * t)))))) 0 0 43 [some (.ref (E.1 49)), some (.int (nI s)), some (.int (nI t)), some (.int (nI n)), some (.int (nI (xt_lo n 1))), some (.int (nI i)), none] [] (xt_sA (xt_sA S 62 (xt_take (S.2.1 62) (S.2.1 61) s t n)) 61 f) := by
    intro d
    induction d with
    | zero => intro i f h0i hf h1i; exact absurd h1i (by omega)
    | succ d ih =>
      intro i f h0i hf h1i
      refine xt_iconst (v := nI 2) C dX6_joins_43 rfl ?_
      refine xt_iload C dX6_joins_44 rfl ?_
      refine xt_imulN C dX6_joins_46 ?_
      refine xt_iconst (v := nI 1) C dX6_joins_47 rfl ?_
      refine xt_iaddN C dX6_joins_48 ?_
      refine xt_iload_n C dX6_joins_49 rfl ?_
      refine xt_icmp_geN (tgt := 126) C dX6_joins_50 (by decide) (by omega) (by omega) (fun c50 => ?_) (fun c50 => ?_)
      · refine xt_iload_n C dX6_joins_126 rfl ?_
        refine xt_iconst (v := nI 2) C dX6_joins_127 rfl ?_
        refine xt_iremN C dX6_joins_128 (by omega) (by omega) (by omega) ?_
        refine xt_iconst (v := nI 1) C dX6_joins_129 rfl ?_
        refine xt_icmp_neN (tgt := 154) C dX6_joins_130 (by decide) (by omega) (by omega) (fun c130 => ?_) (fun c130 => ?_)
        · have hF := xt_pt_iff (D' := fun _ => True) hf (fun j hj => ⟨fun _ => trivial, fun _ => by omega⟩)
          exact xt_vret C dX6_joins_154 ⟨by decide, by decide⟩ ⟨rfl, _, _, rfl, hF⟩
        · have hF1 := xt_pt_put ht (k := n - 1) (v := S.2.1 61 (s + (xt_lo n 1 - 1) * t)) (by omega) (by unfold xt_jl; rw [if_neg (by omega), if_neg (by omega), show (n - 1) / 2 = xt_lo n 1 - 1 by omega]) hf
          have hF := xt_pt_iff (D' := fun _ => True) hF1 (fun j hj => ⟨fun _ => trivial, fun _ => by omega⟩)
          refine xt_aload_n C dX6_joins_133 rfl ?_
          refine xt_get (f := 23) C xt_u6 rfl (by decide) (xt_cl49 _ _) (by decide) lkX6_51 rfl dX6_joins_134 ?_
          refine xt_iload_n C dX6_joins_137 rfl ?_
          refine xt_iload_n C dX6_joins_138 rfl ?_
          refine xt_iload_n C dX6_joins_139 rfl ?_
          refine xt_iconst (v := nI 1) C dX6_joins_140 rfl ?_
          refine xt_isubN C dX6_joins_141 (by omega) ?_
          refine xt_imulN C dX6_joins_142 ?_
          rw [Nat.mul_comm t (n - 1)]
          refine xt_iaddN C dX6_joins_143 ?_
          refine xt_aload_n C dX6_joins_144 rfl ?_
          refine xt_get (f := 24) C xt_u6 rfl (by decide) (xt_cl49 _ _) (by decide) lkX6_54 rfl dX6_joins_145 ?_
          refine xt_iload C dX6_joins_148 rfl ?_
          refine xt_iconst (v := nI 1) C dX6_joins_150 rfl ?_
          refine xt_isubN C dX6_joins_151 (by omega) ?_
          refine xt_ialdN C (by decide) (xt_cl62 _) (by omega) (by decide) (show _ = S.2.1 61 (s + (xt_lo n 1 - 1) * t) from by rw [xt_sA_n (by decide), xt_sA_s]; exact xt_take_at (by omega)) dX6_joins_152 ?_
          refine xt_iastN C (by decide) (xt_cl61 _) (hb _ (by omega)) (by decide) dX6_joins_153 ?_
          rw [xt_sA_s, xt_sA_sA]
          exact xt_vret C dX6_joins_154 ⟨by decide, by decide⟩ ⟨rfl, _, _, rfl, hF⟩
      · refine xt_aload_n C dX6_joins_53 rfl ?_
        refine xt_get (f := 24) C xt_u6 rfl (by decide) (xt_cl49 _ _) (by decide) lkX6_54 rfl dX6_joins_54 ?_
        refine xt_iload C dX6_joins_57 rfl ?_
        refine xt_ialdN C (by decide) (xt_cl62 _) (by omega) (by decide) (show _ = S.2.1 61 (s + i * t) from by rw [xt_sA_n (by decide), xt_sA_s]; exact xt_take_at (by omega)) dX6_joins_59 ?_
        refine xt_aload_n C dX6_joins_60 rfl ?_
        refine xt_get (f := 24) C xt_u6 rfl (by decide) (xt_cl49 _ _) (by decide) lkX6_54 rfl dX6_joins_61 ?_
        refine xt_iload C dX6_joins_64 rfl ?_
        refine xt_iload C dX6_joins_66 rfl ?_
        refine xt_iaddN C dX6_joins_68 ?_
        refine xt_ialdN C (by decide) (xt_cl62 _) (by omega) (by decide) (show _ = S.2.1 61 (s + (xt_lo n 1 + i) * t) from by rw [xt_sA_n (by decide), xt_sA_s]; exact xt_take_at (by omega)) dX6_joins_69 ?_
        refine xt_iconst (v := nI 1) C dX6_joins_70 rfl ?_
        refine xt_iadd C dX6_joins_71 ?_
        refine xt_iconst (v := nI 1) C dX6_joins_72 rfl ?_
        refine xt_ishr C dX6_joins_73 ?_
        rw [xt_hf]
        refine xt_iadd C dX6_joins_74 ?_
        refine xt_istore (lo' := [_, _, _, _, _, _, _]) C dX6_joins_75 (Nat.le_of_ble_eq_true rfl) rfl rfl ?_
        refine xt_aload_n C dX6_joins_77 rfl ?_
        refine xt_get (f := 23) C xt_u6 rfl (by decide) (xt_cl49 _ _) (by decide) lkX6_51 rfl dX6_joins_78 ?_
        refine xt_iload_n C dX6_joins_81 rfl ?_
        refine xt_iload_n C dX6_joins_82 rfl ?_
        refine xt_iconst (v := nI 2) C dX6_joins_83 rfl ?_
        refine xt_imulN C dX6_joins_84 ?_
        refine xt_iload C dX6_joins_85 rfl ?_
        refine xt_imulN C dX6_joins_87 ?_
        rw [show t * 2 * i = 2 * i * t by rw [Nat.mul_assoc, Nat.mul_comm]]
        refine xt_iaddN C dX6_joins_88 ?_
        refine xt_iload C dX6_joins_89 rfl ?_
        refine xt_iastN C (by decide) (xt_cl61 _) (hb _ (by omega)) (by decide) dX6_joins_91 ?_
        rw [xt_sA_s, xt_sA_sA]
        refine xt_aload_n C dX6_joins_92 rfl ?_
        refine xt_get (f := 23) C xt_u6 rfl (by decide) (xt_cl49 _ _) (by decide) lkX6_51 rfl dX6_joins_93 ?_
        refine xt_iload_n C dX6_joins_96 rfl ?_
        refine xt_iload_n C dX6_joins_97 rfl ?_
        refine xt_iconst (v := nI 2) C dX6_joins_98 rfl ?_
        refine xt_iload C dX6_joins_99 rfl ?_
        refine xt_imulN C dX6_joins_101 ?_
        refine xt_iconst (v := nI 1) C dX6_joins_102 rfl ?_
        refine xt_iaddN C dX6_joins_103 ?_
        refine xt_imulN C dX6_joins_104 ?_
        rw [Nat.mul_comm t (2 * i + 1)]
        refine xt_iaddN C dX6_joins_105 ?_
        refine xt_iload C dX6_joins_106 rfl ?_
        refine xt_aload_n C dX6_joins_108 rfl ?_
        refine xt_get (f := 24) C xt_u6 rfl (by decide) (xt_cl49 _ _) (by decide) lkX6_54 rfl dX6_joins_109 ?_
        refine xt_iload C dX6_joins_112 rfl ?_
        refine xt_iload C dX6_joins_114 rfl ?_
        refine xt_iaddN C dX6_joins_116 ?_
        refine xt_ialdN C (by decide) (xt_cl62 _) (by omega) (by decide) (show _ = S.2.1 61 (s + (xt_lo n 1 + i) * t) from by rw [xt_sA_n (by decide), xt_sA_s]; exact xt_take_at (by omega)) dX6_joins_117 ?_
        refine xt_isub C dX6_joins_118 ?_
        refine xt_iastN C (by decide) (xt_cl61 _) (hb _ (by omega)) (by decide) dX6_joins_119 ?_
        rw [xt_sA_s, xt_sA_sA]
        refine xt_iincN (z := 1) (lo' := [_, _, _, _, _, _, _]) C dX6_joins_120 rfl rfl rfl ?_
        refine xt_goto (tgt := 43) C dX6_joins_123 (by decide) ?_
        have hp1 := xt_pt_put ht (k := 2 * i) (v := S.2.1 61 (s + i * t) + xt_half (S.2.1 61 (s + (xt_lo n 1 + i) * t) + nI 1)) (by omega) (by unfold xt_jl; rw [if_neg (by omega), if_pos (by omega), if_pos (by omega), show 2 * i / 2 = i by omega]) hf
        have hp2 := xt_pt_put ht (k := 2 * i + 1) (v := S.2.1 61 (s + i * t) + xt_half (S.2.1 61 (s + (xt_lo n 1 + i) * t) + nI 1) - S.2.1 61 (s + (xt_lo n 1 + i) * t)) (by omega) (by unfold xt_jl; rw [if_neg (by omega), if_pos (by omega), if_neg (by omega), show (2 * i + 1) / 2 = i by omega]) hp1
        exact xt_fg (by repeat' constructor) (ih (i + 1) _ (by omega) (xt_pt_iff hp2 (fun j hj => by omega)) (by omega))
  have loop1 : ∀ (d i : Nat), i ≤ n →  n + 1 ≤ i + d → xt_X E cx (xt_ZM E cx 0 0 (xt_Ep none (fun S9 => ∃ r9 f9, S9 = xt_sA (xt_sA S 62 r9) 61 f9 ∧ xt_pt s t n (S.2.1 61) f9 (fun _ => True) (xt_jl 0 n (fun j => S.2.1 61 (s + j * t)))))) 0 0 10 [some (.ref (E.1 49)), some (.int (nI s)), some (.int (nI t)), some (.int (nI n)), some (.int (nI (xt_lo n 1))), some (.int (nI i)), none] [] (xt_sA S 62 (xt_take (S.2.1 62) (S.2.1 61) s t i)) := by
    intro d
    induction d with
    | zero => intro i  h0i  h1i; exact absurd h1i (by omega)
    | succ d ih =>
      intro i  h0i  h1i
      refine xt_iload C dX6_joins_10 rfl ?_
      refine xt_iload_n C dX6_joins_12 rfl ?_
      refine xt_icmp_geN (tgt := 40) C dX6_joins_13 (by decide) (by omega) (by omega) (fun c13 => ?_) (fun c13 => ?_)
      · refine xt_iconst (v := nI 0) C dX6_joins_40 rfl ?_
        refine xt_istore (lo' := [_, _, _, _, _, _, _]) C dX6_joins_41 (Nat.le_of_ble_eq_true rfl) rfl rfl ?_
        have hi9 : i = n := by omega
        subst hi9
        have h9 := loop2 (i / 2 + 1) 0 (S.2.1 61) (by omega) (xt_pt_iff xt_pt_0 (fun j hj => ⟨False.elim, fun h => by omega⟩)) (by omega)
        rw [show xt_sA (xt_sA S 62 (xt_take (S.2.1 62) (S.2.1 61) s t i)) 61 (S.2.1 61) = xt_sA S 62 (xt_take (S.2.1 62) (S.2.1 61) s t i) from xt_s2k] at h9
        exact xt_fg (by repeat' constructor) h9
      · refine xt_aload_n C dX6_joins_16 rfl ?_
        refine xt_get (f := 24) C xt_u6 rfl (by decide) (xt_cl49 _ _) (by decide) lkX6_54 rfl dX6_joins_17 ?_
        refine xt_iload C dX6_joins_20 rfl ?_
        refine xt_aload_n C dX6_joins_22 rfl ?_
        refine xt_get (f := 23) C xt_u6 rfl (by decide) (xt_cl49 _ _) (by decide) lkX6_51 rfl dX6_joins_23 ?_
        refine xt_iload_n C dX6_joins_26 rfl ?_
        refine xt_iload_n C dX6_joins_27 rfl ?_
        refine xt_iload C dX6_joins_28 rfl ?_
        refine xt_imulN C dX6_joins_30 ?_
        rw [Nat.mul_comm t i]
        refine xt_iaddN C dX6_joins_31 ?_
        refine xt_ialdN C (by decide) (xt_cl61 _) (hb i (by omega)) (by decide) (show _ = S.2.1 61 (s + i * t) from by rw [xt_sA_n (by decide)]) dX6_joins_32 ?_
        refine xt_iastN C (by decide) (xt_cl62 _) (by omega) (by decide) dX6_joins_33 ?_
        rw [xt_sA_s, xt_sA_sA, xt_take_s]
        refine xt_iincN (z := 1) (lo' := [_, _, _, _, _, _, _]) C dX6_joins_34 rfl rfl rfl ?_
        refine xt_goto (tgt := 10) C dX6_joins_37 (by decide) ?_
        exact xt_fg (by repeat' constructor) (ih (i + 1) (by omega) (by omega))
  refine xt_iload_n C dX6_joins_0 rfl ?_
  refine xt_iconst (v := nI 1) C dX6_joins_1 rfl ?_
  refine xt_iaddN C dX6_joins_2 ?_
  refine xt_iconst (v := nI 2) C dX6_joins_3 rfl ?_
  refine xt_idivN C dX6_joins_4 (by omega) (by omega) (by omega) ?_
  rw [xt_lo1]
  refine xt_istore (lo' := [_, _, _, _, _, _, _]) C dX6_joins_5 (Nat.le_of_ble_eq_true rfl) rfl rfl ?_
  refine xt_iconst (v := nI 0) C dX6_joins_7 rfl ?_
  refine xt_istore (lo' := [_, _, _, _, _, _, _]) C dX6_joins_8 (Nat.le_of_ble_eq_true rfl) rfl rfl ?_
  have h9 := loop1 (n + 1) 0 (by omega) (by omega)
  rw [xt_take_0, xt_sA_self] at h9
  exact xt_fg (by repeat' constructor) h9
end XM2
