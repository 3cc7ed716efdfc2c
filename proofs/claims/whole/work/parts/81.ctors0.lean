/-! the constructors -/
section XN2
theorem oi_i : Cond.instanceMethod objectInit ∈ xt_T := xt_mem 133 (by decide +kernel) rfl
theorem oi_c : Cond.code objectInit ⟨#[0xb1]⟩ 1 none ∈ xt_T := xt_mem 134 (by decide +kernel) rfl
theorem mi_X0 : Cond.code yX0_init cX0_init 2 none ∈ xt_T ∧ Cond.instanceMethod yX0_init ∈ xt_T ∧ Cond.initialized yX0_init.cls ∈ xt_T ∧ (yX0_init.cls ≠ "java/lang/invoke/MethodHandle" ∧ yX0_init.cls ≠ "java/lang/invoke/VarHandle") ∧ (parseMethodDescriptor yX0_init.desc).map (fun d => d.parameters.length) = some 0 := ⟨xt_mem 181 (by decide +kernel) rfl, xt_mem 180 (by decide +kernel) rfl, xt_mem 108 (by decide +kernel) rfl, by decide +kernel, by decide +kernel⟩
theorem it_X0 : Cond.instantiable RX0 3 ∈ xt_T := xt_mem 178 (by decide +kernel) rfl
theorem ii_X0 : Cond.initialized RX0 ∈ xt_T := xt_mem 108 (by decide +kernel) rfl
theorem mi_X1 : Cond.code yX1_init cX1_init 1 none ∈ xt_T ∧ Cond.instanceMethod yX1_init ∈ xt_T ∧ Cond.initialized yX1_init.cls ∈ xt_T ∧ (yX1_init.cls ≠ "java/lang/invoke/MethodHandle" ∧ yX1_init.cls ≠ "java/lang/invoke/VarHandle") ∧ (parseMethodDescriptor yX1_init.desc).map (fun d => d.parameters.length) = some 0 := ⟨xt_mem 139 (by decide +kernel) rfl, xt_mem 138 (by decide +kernel) rfl, xt_mem 107 (by decide +kernel) rfl, by decide +kernel, by decide +kernel⟩
theorem it_X1 : Cond.instantiable RX1 7 ∈ xt_T := xt_mem 136 (by decide +kernel) rfl
theorem ii_X1 : Cond.initialized RX1 ∈ xt_T := xt_mem 107 (by decide +kernel) rfl
theorem mi_X2 : Cond.code yX2_init cX2_init 1 none ∈ xt_T ∧ Cond.instanceMethod yX2_init ∈ xt_T ∧ Cond.initialized yX2_init.cls ∈ xt_T ∧ (yX2_init.cls ≠ "java/lang/invoke/MethodHandle" ∧ yX2_init.cls ≠ "java/lang/invoke/VarHandle") ∧ (parseMethodDescriptor yX2_init.desc).map (fun d => d.parameters.length) = some 0 := ⟨xt_mem 259 (by decide +kernel) rfl, xt_mem 258 (by decide +kernel) rfl, xt_mem 110 (by decide +kernel) rfl, by decide +kernel, by decide +kernel⟩
theorem it_X2 : Cond.instantiable RX2 4 ∈ xt_T := xt_mem 256 (by decide +kernel) rfl
theorem ii_X2 : Cond.initialized RX2 ∈ xt_T := xt_mem 110 (by decide +kernel) rfl
theorem mi_X3 : Cond.code yX3_init cX3_init 1 none ∈ xt_T ∧ Cond.instanceMethod yX3_init ∈ xt_T ∧ Cond.initialized yX3_init.cls ∈ xt_T ∧ (yX3_init.cls ≠ "java/lang/invoke/MethodHandle" ∧ yX3_init.cls ≠ "java/lang/invoke/VarHandle") ∧ (parseMethodDescriptor yX3_init.desc).map (fun d => d.parameters.length) = some 0 := ⟨xt_mem 282 (by decide +kernel) rfl, xt_mem 281 (by decide +kernel) rfl, xt_mem 111 (by decide +kernel) rfl, by decide +kernel, by decide +kernel⟩
theorem it_X3 : Cond.instantiable RX3 4 ∈ xt_T := xt_mem 279 (by decide +kernel) rfl
theorem ii_X3 : Cond.initialized RX3 ∈ xt_T := xt_mem 111 (by decide +kernel) rfl
theorem mi_X4 : Cond.code yX4_init cX4_init 1 none ∈ xt_T ∧ Cond.instanceMethod yX4_init ∈ xt_T ∧ Cond.initialized yX4_init.cls ∈ xt_T ∧ (yX4_init.cls ≠ "java/lang/invoke/MethodHandle" ∧ yX4_init.cls ≠ "java/lang/invoke/VarHandle") ∧ (parseMethodDescriptor yX4_init.desc).map (fun d => d.parameters.length) = some 0 := ⟨xt_mem 201 (by decide +kernel) rfl, xt_mem 200 (by decide +kernel) rfl, xt_mem 109 (by decide +kernel) rfl, by decide +kernel, by decide +kernel⟩
theorem it_X4 : Cond.instantiable RX4 14 ∈ xt_T := xt_mem 198 (by decide +kernel) rfl
theorem ii_X4 : Cond.initialized RX4 ∈ xt_T := xt_mem 109 (by decide +kernel) rfl
theorem mi_X5 : Cond.code yX5_init cX5_init 1 none ∈ xt_T ∧ Cond.instanceMethod yX5_init ∈ xt_T ∧ Cond.initialized yX5_init.cls ∈ xt_T ∧ (yX5_init.cls ≠ "java/lang/invoke/MethodHandle" ∧ yX5_init.cls ≠ "java/lang/invoke/VarHandle") ∧ (parseMethodDescriptor yX5_init.desc).map (fun d => d.parameters.length) = some 0 := ⟨xt_mem 131 (by decide +kernel) rfl, xt_mem 130 (by decide +kernel) rfl, xt_mem 106 (by decide +kernel) rfl, by decide +kernel, by decide +kernel⟩
theorem it_X5 : Cond.instantiable RX5 10 ∈ xt_T := xt_mem 128 (by decide +kernel) rfl
theorem ii_X5 : Cond.initialized RX5 ∈ xt_T := xt_mem 106 (by decide +kernel) rfl
theorem mi_X6 : Cond.code yX6_init cX6_init 1 none ∈ xt_T ∧ Cond.instanceMethod yX6_init ∈ xt_T ∧ Cond.initialized yX6_init.cls ∈ xt_T ∧ (yX6_init.cls ≠ "java/lang/invoke/MethodHandle" ∧ yX6_init.cls ≠ "java/lang/invoke/VarHandle") ∧ (parseMethodDescriptor yX6_init.desc).map (fun d => d.parameters.length) = some 0 := ⟨xt_mem 1099 (by decide +kernel) rfl, xt_mem 1098 (by decide +kernel) rfl, xt_mem 112 (by decide +kernel) rfl, by decide +kernel, by decide +kernel⟩
theorem it_X6 : Cond.instantiable RX6 29 ∈ xt_T := xt_mem 1096 (by decide +kernel) rfl
theorem ii_X6 : Cond.initialized RX6 ∈ xt_T := xt_mem 112 (by decide +kernel) rfl
theorem lkcL_8 : Cond.classLink RL 8 RX5 ∈ xt_T := xt_mem 127 (by decide +kernel) rfl
theorem lkcX5_7 : Cond.classLink RX5 7 RX1 ∈ xt_T := xt_mem 135 (by decide +kernel) rfl
theorem lkcX5_23 : Cond.classLink RX5 23 RX0 ∈ xt_T := xt_mem 177 (by decide +kernel) rfl
theorem lkcX0_9 : Cond.classLink RX0 9 RX1 ∈ xt_T := xt_mem 183 (by decide +kernel) rfl
theorem lkcX5_30 : Cond.classLink RX5 30 RX4 ∈ xt_T := xt_mem 197 (by decide +kernel) rfl
theorem lkcX5_37 : Cond.classLink RX5 37 RX2 ∈ xt_T := xt_mem 255 (by decide +kernel) rfl
theorem lkcX5_44 : Cond.classLink RX5 44 RX3 ∈ xt_T := xt_mem 278 (by decide +kernel) rfl
theorem lkcL_121 : Cond.classLink RL 121 RX6 ∈ xt_T := xt_mem 1095 (by decide +kernel) rfl
theorem ac_int : Cond.arrayClass .int ∈ xt_T := xt_mem 176 (by decide +kernel) rfl
theorem ac_char : Cond.arrayClass .char ∈ xt_T := xt_mem 299 (by decide +kernel) rfl
theorem ac_boolean : Cond.arrayClass .boolean ∈ xt_T := xt_mem 1193 (by decide +kernel) rfl
theorem ac_long : Cond.arrayClass .long ∈ xt_T := xt_mem 1194 (by decide +kernel) rfl
theorem ac_double : Cond.arrayClass .double ∈ xt_T := xt_mem 1492 (by decide +kernel) rfl
theorem xt_row8 {f : Nat → Option Nat} {q : Nat → Nat} (h0 : f 0 = some (q 1)) (h1 : f 1 = some (q 4)) (h2 : f 2 = some (q 7)) (h3 : f 3 = some (q 10)) (h4 : f 4 = some (q 13)) (h5 : f 5 = some (q 16)) (h6 : f 6 = some (q 19)) (h7 : f 7 = some (q 22)) : ∀ j, j < 8 → f j = some (q (1 + 3 * j)) := by
  intro j hj
  match j, hj with
  | 0, _ => exact h0
  | 1, _ => exact h1
  | 2, _ => exact h2
  | 3, _ => exact h3
  | 4, _ => exact h4
  | 5, _ => exact h5
  | 6, _ => exact h6
  | 7, _ => exact h7
theorem xt_row9 {f : Nat → Option Nat} {p q : Nat → Nat} (h : ∀ j, j < 8 → f j = some (p (1 + 3 * j))) (h0 : p 1 = q 9) (h1 : p 4 = q 12) (h2 : p 7 = q 15) (h3 : p 10 = q 18) (h4 : p 13 = q 21) (h5 : p 16 = q 24) (h6 : p 19 = q 27) (h7 : p 22 = q 30) : ∀ j, j < 8 → f j = some (q (9 + 3 * j)) := by
  intro j hj
  match j, hj with
  | 0, _ => exact (h 0 (by decide)).trans (congrArg some h0)
  | 1, _ => exact (h 1 (by decide)).trans (congrArg some h1)
  | 2, _ => exact (h 2 (by decide)).trans (congrArg some h2)
  | 3, _ => exact (h 3 (by decide)).trans (congrArg some h3)
  | 4, _ => exact (h 4 (by decide)).trans (congrArg some h4)
  | 5, _ => exact (h 5 (by decide)).trans (congrArg some h5)
  | 6, _ => exact (h 6 (by decide)).trans (congrArg some h6)
  | 7, _ => exact (h 7 (by decide)).trans (congrArg some h7)
theorem yo_app {w0 es ys : va_W} {x : Nat × va_E} : (w0 ++ x :: es) ++ ys = w0 ++ x :: (es ++ ys) := by simp
end XN2
