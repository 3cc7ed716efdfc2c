/-! THE SCRIPT: where a fitting piece ends; the whole text; what an item's first sign sets -/
section XC21
variable {E : xt_Ev} {l : Launch} {S : xt_St}
theorem xt_fm {i k m : Nat} (h1 : 21 ≤ i) (h2 : i < 24) (hn : xt_tl.getD i 0 = m) (hk : k < m) : ((xt_tb.getD i []).getD k 0 = nI 61 ∨ (xt_tb.getD i []).getD k 0 = nI 82 ∨ (xt_tb.getD i []).getD k 0 = nI 99 ∨ (xt_tb.getD i []).getD k 0 = nI 100 ∨ (xt_tb.getD i []).getD k 0 = nI 104) ∧ (((xt_tb.getD i []).getD k 0 &&& nI 255).toUInt32 % 65536).toInt32 = (xt_tb.getD i []).getD k 0 ∧ narrow .char (.int ((xt_tb.getD i []).getD k 0)) = .int ((xt_tb.getD i []).getD k 0) := by
  subst hn
  rcases (by omega : i = 21 ∨ i = 22 ∨ i = 23) with rfl | rfl | rfl
  · have h9 : k < 7 := hk
    rcases (by omega : k = 0 ∨ k = 1 ∨ k = 2 ∨ k = 3 ∨ k = 4 ∨ k = 5 ∨ k = 6) with rfl | rfl | rfl | rfl | rfl | rfl | rfl <;> exact ⟨by decide +kernel, by decide +kernel, rfl⟩
  · have h9 : k < 4 := hk
    rcases (by omega : k = 0 ∨ k = 1 ∨ k = 2 ∨ k = 3) with rfl | rfl | rfl | rfl <;> exact ⟨by decide +kernel, by decide +kernel, rfl⟩
  · have h9 : k < 1 := hk
    rcases (by omega : k = 0) with rfl
    exact ⟨by decide +kernel, by decide +kernel, rfl⟩
theorem xt_tl7 {i : Nat} (h1 : 21 ≤ i) (h2 : i < 25) : xt_tl.getD i 0 ≤ 7 ∧ (xt_tl.getD i 0 = 0 ↔ i = 24) := by
  rcases (by omega : i = 21 ∨ i = 22 ∨ i = 23 ∨ i = 24) with rfl | rfl | rfl | rfl <;> decide +kernel
theorem xt_fo_b {x : Int32} : 21 ≤ xt_fo x ∧ xt_fo x < 25 := by
  unfold xt_fo
  split
  · omega
  split
  · omega
  split <;> omega
/-- the signs from at on fit the text i up to (not with) this one -/
noncomputable def xt_fe (a : Nat → Int32) (n i b : Nat) : Nat := xt_pre (fun k => xt_ft ((xt_tb.getD i []).getD k 0) (xt_sg a n (b + k))) (xt_tl.getD i 0)
set_option maxRecDepth 20000 in
set_option maxHeartbeats 2000000 in
theorem ct_eof {i n b : Nat} (h21 : 21 ≤ i) (h24 : i < 24) (hn9 : S.1 46 1 = nI n) (h60 : n ≤ 60) (hb : b < 1000) : xt_Ct E l yX3_endOfFitting cX3_endOfFitting 4 (some Jvm.ClassFile.FieldType.int) 5 106 0 0 [.ref (E.1 46), .ref (E.2.2.2.2.1 i), .int (nI b)] S (xt_Eq (some (.int (nI (b + xt_fe (S.2.1 47) n i b)))) S) := by
  refine xt_body (by decide +kernel) (xt_all rfl) (Nat.le_of_ble_eq_true rfl) (fun cx C hl9 => ?_)
  show xt_X E cx _ 0 0 0 [some (.ref (E.1 46)), some (.ref (E.2.2.2.2.1 i)), some (.int (nI b)), none] [] S
  obtain ⟨m, hn⟩ : ∃ m, xt_tl.getD i 0 = m := ⟨_, rfl⟩
  have hm7 : m ≤ 7 := hn ▸ (xt_tl7 h21 (by omega)).1
  have hi : i < 31 := by omega
  have hn31 : m < 2 ^ 31 := by omega
  have loop : ∀ (d k : Nat), k ≤ m → (∀ j, j < k → xt_ft ((xt_tb.getD i []).getD j 0) (xt_sg (S.2.1 47) n (b + j))) → m + 1 ≤ k + d → xt_X E cx (xt_ZM E cx 0 0 (xt_Eq (some (.int (nI (b + xt_fe (S.2.1 47) n i b)))) S)) 0 0 2 [some (.ref (E.1 46)), some (.ref (E.2.2.2.2.1 i)), some (.int (nI b)), some (.int (nI k))] [] S := by
    intro d
    induction d with
    | zero => intro k  h0k hall h1k; exact absurd h1k (by omega)
    | succ d ih =>
      intro k  h0k hall h1k
      refine xt_iload_n C dX3_endOfFitting_2 rfl ?_
      refine xt_aload_n C dX3_endOfFitting_3 rfl ?_
      refine xt_cT C mv_J0_length_8abf5 lkX3_44 (ct_length hi hn hn31) rfl hi rfl (by decide) rfl (Nat.le_of_ble_eq_true rfl) dX3_endOfFitting_4 ?_
      refine xt_icmp_geN (tgt := 34) C dX3_endOfFitting_7 (by decide) (by omega) (by omega) (fun c7 => ?_) (fun c7 => ?_)
      · have hv9 : xt_fe (S.2.1 47) n i b = k := by
          unfold xt_fe
          rw [show xt_tl.getD i 0 = k by omega]
          exact xt_pre_all hall
        refine xt_iload_n C dX3_endOfFitting_34 rfl ?_
        refine xt_iload_n C dX3_endOfFitting_35 rfl ?_
        refine xt_iaddN C dX3_endOfFitting_36 ?_
        exact xt_iret C dX3_endOfFitting_37 ⟨by decide, by decide⟩ (by rw [hv9]; exact ⟨rfl, rfl⟩)
      · have hf9 := xt_fm h21 h24 hn c7
        refine xt_aload_n C dX3_endOfFitting_10 rfl ?_
        refine xt_iload_n C dX3_endOfFitting_11 rfl ?_
        refine xt_cT C mv_J0_charAt_5068e lkX3_51 (ct_charAt hi hn hn31 c7 rfl hf9.2.1 hf9.2.2) rfl hi rfl (by decide) rfl (Nat.le_of_ble_eq_true rfl) dX3_endOfFitting_12 ?_
        refine xt_aload_n C dX3_endOfFitting_15 rfl ?_
        refine xt_iload_n C dX3_endOfFitting_16 rfl ?_
        refine xt_iload_n C dX3_endOfFitting_17 rfl ?_
        refine xt_iaddN C dX3_endOfFitting_18 ?_
        refine xt_cV C mv_X3_signAt lkX3_30 (ct_signAt hn9 h60 (by omega)) rfl (by decide) (xt_cl46 _ _) rfl (by decide) rfl (Nat.le_of_ble_eq_true rfl) dX3_endOfFitting_19 ?_
        refine xt_cS C ms_X3_fits lkX3_55 (ct_fits hf9.1) rfl (by decide) rfl (Nat.le_of_ble_eq_true rfl) dX3_endOfFitting_22 ?_
        refine xt_if_eqB (tgt := 34) C dX3_endOfFitting_25 (by decide) (fun c25 => ?_) (fun c25 => ?_)
        · have hv9 : xt_fe (S.2.1 47) n i b = k := by
            unfold xt_fe
            exact xt_pre_stop hall c25 (by omega)
          refine xt_iload_n C dX3_endOfFitting_34 rfl ?_
          refine xt_iload_n C dX3_endOfFitting_35 rfl ?_
          refine xt_iaddN C dX3_endOfFitting_36 ?_
          exact xt_iret C dX3_endOfFitting_37 ⟨by decide, by decide⟩ (by rw [hv9]; exact ⟨rfl, rfl⟩)
        · refine xt_iincN (z := 1) (lo' := [_, _, _, _]) C dX3_endOfFitting_28 rfl rfl rfl ?_
          refine xt_goto (tgt := 2) C dX3_endOfFitting_31 (by decide) ?_
          exact ih (k + 1) (by omega) (fun j hj => by
            by_cases h9 : j = k
            · subst h9; exact c25
            · exact hall j (by omega)) (by omega)
  refine xt_iconst (v := nI 0) C dX3_endOfFitting_0 rfl ?_
  refine xt_istore_n (lo' := [_, _, _, _]) C dX3_endOfFitting_1 (Nat.le_of_ble_eq_true rfl) rfl rfl ?_
  exact loop (m + 1) 0 (by omega) (fun j hj => absurd hj (by omega)) (by omega)
set_option maxRecDepth 20000 in
set_option maxHeartbeats 2000000 in
theorem ct_settingOf {x : Int32} (hx : x = nI 98 ∨ x = nI 108 ∨ x = nI 109 ∨ x = nI 114 ∨ x = nI 116 ∨ x = nI 117) : xt_Ct E l yX3_settingOf cX3_settingOf 1 (some Jvm.ClassFile.FieldType.int) 0 0 0 0 [.int x] S (xt_Eq (some (.int (xt_so x))) S) := by
  refine xt_body (by decide +kernel) (xt_all rfl) (Nat.le_of_ble_eq_true rfl) (fun cx C hl9 => ?_)
  show xt_X E cx _ 0 0 0 [some (.int x)] [] S
  refine xt_iload_n C dX3_settingOf_0 rfl ?_
  rcases hx with rfl | rfl | rfl | rfl | rfl | rfl
  · refine xt_lookup (off := 39) (tgt := 40) C dX3_settingOf_1 (by decide +kernel) (by decide +kernel) (by decide) ?_
    refine xt_iconst (v := nI 2) C dX3_settingOf_40 rfl ?_
    exact xt_iret C dX3_settingOf_41 ⟨by decide, by decide⟩ ⟨rfl, rfl⟩
  · refine xt_lookup (off := 37) (tgt := 38) C dX3_settingOf_1 (by decide +kernel) (by decide +kernel) (by decide) ?_
    refine xt_iconst (v := nI 1) C dX3_settingOf_38 rfl ?_
    exact xt_iret C dX3_settingOf_39 ⟨by decide, by decide⟩ ⟨rfl, rfl⟩
  · refine xt_lookup (off := 41) (tgt := 42) C dX3_settingOf_1 (by decide +kernel) (by decide +kernel) (by decide) ?_
    refine xt_iconst (v := -1) C dX3_settingOf_42 rfl ?_
    exact xt_iret C dX3_settingOf_43 ⟨by decide, by decide⟩ ⟨rfl, rfl⟩
  · refine xt_lookup (off := 41) (tgt := 42) C dX3_settingOf_1 (by decide +kernel) (by decide +kernel) (by decide) ?_
    refine xt_iconst (v := -1) C dX3_settingOf_42 rfl ?_
    exact xt_iret C dX3_settingOf_43 ⟨by decide, by decide⟩ ⟨rfl, rfl⟩
  · refine xt_lookup (off := 35) (tgt := 36) C dX3_settingOf_1 (by decide +kernel) (by decide +kernel) (by decide) ?_
    refine xt_iconst (v := nI 0) C dX3_settingOf_36 rfl ?_
    exact xt_iret C dX3_settingOf_37 ⟨by decide, by decide⟩ ⟨rfl, rfl⟩
  · refine xt_lookup (off := 41) (tgt := 42) C dX3_settingOf_1 (by decide +kernel) (by decide +kernel) (by decide) ?_
    refine xt_iconst (v := -1) C dX3_settingOf_42 rfl ?_
    exact xt_iret C dX3_settingOf_43 ⟨by decide, by decide⟩ ⟨rfl, rfl⟩
/-- the whole text: the answer, the items, where each starts -/
noncomputable def xt_fl (a : Nat → Int32) (n : Nat) : Nat → Nat → Nat → (Nat → Int32) → Int32 × Nat × (Nat → Int32)
  | 0, it, b, q => (nI b, it, q)
  | f + 1, it, b, q =>
    if xt_fo (xt_sg a n b) = 24 then (nI b, it, if it < 20 then upd q it (nI b) else q)
    else if xt_fe a n (xt_fo (xt_sg a n b)) (b + 1) < xt_tl.getD (xt_fo (xt_sg a n b)) 0 then (nI (b + 1 + xt_fe a n (xt_fo (xt_sg a n b)) (b + 1)), it, if it < 20 then upd q it (nI b) else q)
    else if n ≤ b + 1 + xt_fe a n (xt_fo (xt_sg a n b)) (b + 1) then (-1, it + 1, if it < 20 then upd q it (nI b) else q)
    else if xt_sg a n (b + 1 + xt_fe a n (xt_fo (xt_sg a n b)) (b + 1)) ≠ nI 59 then (nI (b + 1 + xt_fe a n (xt_fo (xt_sg a n b)) (b + 1)), it + 1, if it < 20 then upd q it (nI b) else q)
    else xt_fl a n f (it + 1) (b + 1 + xt_fe a n (xt_fo (xt_sg a n b)) (b + 1) + 1) (if it < 20 then upd q it (nI b) else q)
theorem xt_pre_le {P : Nat → Prop} {m : Nat} : xt_pre P m ≤ m := by
  induction m with
  | zero => exact Nat.le_refl _
  | succ m ih => unfold xt_pre; split <;> omega
end XC21
