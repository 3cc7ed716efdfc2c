/-! the law's rows -/
section XR1
theorem xt_and31 (x : Int32) : ∃ j, j < 32 ∧ x &&& nI 31 = nI j := by
  refine ⟨x.toBitVec.toNat % 32, Nat.mod_lt _ (by decide), ?_⟩
  apply Int32.toBitVec_inj.mp
  rw [Int32.toBitVec_and]
  apply BitVec.eq_of_toNat_eq
  rw [BitVec.toNat_and]
  have e1 : (nI 31).toBitVec.toNat = 2 ^ 5 - 1 := by decide
  rw [e1, Nat.and_two_pow_sub_one_eq_mod]
  have h : x.toBitVec.toNat % 32 < 32 := Nat.mod_lt _ (by decide)
  have e2 : (nI (x.toBitVec.toNat % 32)).toBitVec.toNat = x.toBitVec.toNat % 32 := by
    have h1 := nI_clamp (n := x.toBitVec.toNat % 32) (by omega)
    have h2 := nI_toInt (n := x.toBitVec.toNat % 32) (by omega)
    generalize x.toBitVec.toNat % 32 = w at h h1 h2 ⊢
    have h3 : ∀ w : Nat, w < 32 → (nI w).toBitVec.toNat = w := by decide
    exact h3 w h
  rw [e2]
def xt_LA (E : xt_Ev) (cx : xt_Cx) (b L : Nat) (xs : Nat → Int32) : Prop := xt_Ok RL cL_law 9 ret room_1 E cx ∧ va_X b L xs cx.2.2.2.2.1 cx.2.2.2.2.1.heap ∧ b < cx.2.2.2.2.1.heap.size ∧ ¬ xt_Af E b ∧ L ≤ 3072 ∧ cx.2.1.stackTraces = false
abbrev xt_lv9 (E : xt_Ev) (b i : Nat) (x y z : Option Value) : List (Option Value) := [some (.ref b), some (.ref (E.1 0)), some (.ref (E.1 49)), some (.ref (E.1 67)), some (.ref (E.1 68)), some (.int (nI i)), x, y, z]
variable {E : xt_Ev} {cx : xt_Cx} {b L i : Nat} {xs : Nat → Int32} {Z : State → Prop} {k n pc : Nat} {lo lo' : List (Option Value)} {x y z : Option Value} {st : List Value} {S : xt_St}
theorem xt_sld (A : xt_LA E cx b L xs) {j : Nat} (hj : j < L) (d : decode cL_law pc = .ok (.iaload, 1)) (kk : xt_X E cx Z k n (pc + 1) lo (.int (xs j) :: st) S) : xt_X E cx Z k n pc lo (.int (nI j) :: .ref b :: st) S := by
  have hL := A.2.2.2.2.1
  intro H locs ls h1 h2 h3
  refine va_sld A.1.1 A.1.2.1 A.2.1 A.2.2.1 A.2.2.2.1 h2 (vp_in_nI hj (by omega)) d ?_
  rw [nI_clamp (by omega)]
  exact kk H locs ls h1 h2 h3
theorem xt_sln (A : xt_LA E cx b L xs) (d : decode cL_law pc = .ok (.arraylength, 1)) (kk : xt_X E cx Z k n (pc + 1) lo (.int (nI L) :: st) S) : xt_X E cx Z k n pc lo (.ref b :: st) S := fun H locs ls h1 h2 h3 => va_slen A.1.1 A.1.2.1 A.2.1 A.2.2.1 A.2.2.2.1 h2 d (kk H locs ls h1 h2 h3)
theorem xt_arg (A : xt_LA E cx b L xs) (q : Nat) (hj : i + q < L) (hq : q < 6) (d0 : decode cL_law pc = .ok (.aload_n 0, 1)) (d1 : decode cL_law (pc + 1) = .ok (.iload 5, 2)) (d2 : decode cL_law (pc + 3) = .ok (.iconst (q : Int), 1)) (d3 : decode cL_law (pc + 4) = .ok (.iadd, 1)) (d4 : decode cL_law (pc + 5) = .ok (.iaload, 1)) (kk : xt_X E cx Z k n (pc + 6) (xt_lv9 E b i x y z) (.int (xs (i + q)) :: st) S) : xt_X E cx Z k n pc (xt_lv9 E b i x y z) st S := by
  refine xt_aload_n A.1 d0 rfl ?_
  refine xt_iload A.1 d1 rfl ?_
  refine xt_iconst (v := nI q) A.1 d2 rfl ?_
  refine xt_iaddN A.1 d3 ?_
  exact xt_sld A hj d4 kk
theorem xt_cmp0 (v : Int64) : lg_cmp v v = 0 := by
  unfold lg_cmp
  simp
/-- the tail of a case: the numbers compared -/
theorem xt_tail (A : xt_LA E cx b L xs) {q : Nat} {v : Int32} {g : Int} (hq : q < 4) (h0 : S.1 49 0 = nI q) (ho : q = 0 → S.2.2.1 67 0 = v.toInt64) (d0 : decode cL_law pc = .ok (.istore 7, 2)) (d1 : decode cL_law (pc + 2) = .ok (.aload_n 2, 1)) (d2 : decode cL_law (pc + 3) = .ok (.invokevirtual 130, 3)) (d3 : decode cL_law (pc + 6) = .ok (.iload 6, 2)) (d4 : decode cL_law (pc + 8) = .ok (.if_icmp .eq 5, 3)) (d5 : decode cL_law (pc + 13) = .ok (.iload 6, 2)) (d6 : decode cL_law (pc + 15) = .ok (.ifCond .ne 15, 3)) (d7 : decode cL_law (pc + 18) = .ok (.aload_n 3, 1)) (d8 : decode cL_law (pc + 19) = .ok (.iconst 0, 1)) (d9 : decode cL_law (pc + 20) = .ok (.laload, 1)) (d10 : decode cL_law (pc + 21) = .ok (.iload 7, 2)) (d11 : decode cL_law (pc + 23) = .ok (.i2l, 1)) (d12 : decode cL_law (pc + 24) = .ok (.lcmp, 1)) (d13 : decode cL_law (pc + 25) = .ok (.ifCond .eq 5, 3)) (d14 : decode cL_law (pc + 30) = .ok (.goto g, 3)) (hg : ((pc + 30 : Nat) : Int) + g = ((2308 : Nat) : Int))
    (hk : k ≤ 601024 ∧ n ≤ 7293034) (kk : xt_X E cx Z k n 2308 (xt_lv9 E b i none none none) [] S) : xt_X E cx Z k n pc (xt_lv9 E b i (some (.int (nI q))) y z) [.int v] S := by
  have hend : xt_X E cx Z k n (pc + 30) (xt_lv9 E b i (some (.int (nI q))) (some (.int v)) z) [] S := by
    refine xt_goto (tgt := 2308) A.1 d14 hg ?_
    exact xt_fg (by repeat' constructor) kk
  refine xt_istore A.1 d0 (Nat.le_of_ble_eq_true rfl) rfl rfl ?_
  refine xt_aload_n A.1 d1 rfl ?_
  refine xt_cV A.1 mv_X6_thrown lkL_130 (ct_mthrown h0) rfl (by decide) (xt_cl49 _ _) rfl ⟨Nat.le_of_ble_eq_true rfl, Nat.le_of_ble_eq_true rfl, hk.1, hk.2⟩ rfl (Nat.le_of_ble_eq_true rfl) d2 ?_
  refine xt_iload A.1 d3 rfl ?_
  refine xt_icmp_eq (tgt := pc + 13) A.1 d4 (by omega) (fun c9 => ?_) (fun c9 => absurd rfl c9)
  refine xt_iload A.1 d5 rfl ?_
  refine xt_if_ne (tgt := pc + 30) A.1 d6 (by omega) (fun c9 => hend) (fun c9 => ?_)
  have hq0 : q = 0 := (nI_eq (by omega) (by omega)).mp (c9.trans nI_0.symm)
  refine xt_aload_n A.1 d7 rfl ?_
  refine xt_iconst (v := nI 0) A.1 d8 rfl ?_
  refine xt_laldN A.1 (by decide) (xt_cl67 _) (by decide) (by decide) (ho hq0) d9 ?_
  refine xt_iload A.1 d10 rfl ?_
  refine xt_i2l A.1 d11 rfl ?_
  refine xt_lcmp A.1 d12 ?_
  rw [xt_cmp0]
  exact xt_if_eq (tgt := pc + 30) A.1 d13 (by omega) (fun c9 => hend) (fun c9 => absurd rfl c9)
theorem xt_dst (A : xt_LA E cx b L xs) {x : UInt64} {u : Option Value} (hu : ∀ w, u = some w → w.category = 1) (d : decode cL_law pc = .ok (.dstore 7, 2)) (kk : xt_X E cx Z k n (pc + 2) (xt_lv9 E b i u (some (.double x)) none) st S) : xt_X E cx Z k n pc (xt_lv9 E b i u y z) (.double x :: st) S := by
  intro H locs ls h1 h2 h3
  refine lv_dstore A.1.1 A.1.2.1 d (xt_lh_has h3) (Nat.le_of_ble_eq_true rfl) rfl (fun ls' h9 => ?_)
  refine kk H locs ls' h1 h2 ⟨h9.1, h9.2.1, fun j w hj => ?_⟩
  match j, hj with
  | 0, hj => cases hj; exact h9.2.2 (0, _) (List.mem_cons_of_mem _ (List.mem_filter.mpr ⟨xt_pr_of.mpr rfl, rfl⟩))
  | 1, hj => cases hj; exact h9.2.2 (1, _) (List.mem_cons_of_mem _ (List.mem_filter.mpr ⟨xt_pr_of.mpr rfl, rfl⟩))
  | 2, hj => cases hj; exact h9.2.2 (2, _) (List.mem_cons_of_mem _ (List.mem_filter.mpr ⟨xt_pr_of.mpr rfl, rfl⟩))
  | 3, hj => cases hj; exact h9.2.2 (3, _) (List.mem_cons_of_mem _ (List.mem_filter.mpr ⟨xt_pr_of.mpr rfl, rfl⟩))
  | 4, hj => cases hj; exact h9.2.2 (4, _) (List.mem_cons_of_mem _ (List.mem_filter.mpr ⟨xt_pr_of.mpr rfl, rfl⟩))
  | 5, hj => cases hj; exact h9.2.2 (5, _) (List.mem_cons_of_mem _ (List.mem_filter.mpr ⟨xt_pr_of.mpr rfl, rfl⟩))
  | 6, hj =>
    have hu9 : u = some w := by simpa using hj
    subst hu9
    refine h9.2.2 (6, _) (List.mem_cons_of_mem _ (List.mem_filter.mpr ⟨xt_pr_of.mpr rfl, ?_⟩))
    simp [hu w rfl]
  | 7, hj => cases hj; exact h9.2.2 (7, _) List.mem_cons_self
  | 8, hj => simp at hj
  | j + 9, hj => simp at hj
end XR1
