/-! the law from its entry to its loop -/
section XS1
def xt_pi (f : Nat) : Int32 := match f with
  | 0 => nI 8
  | 1 => nI 8
  | 2 => nI 4
  | 3 => nI 2
  | _ => nI 0
def xt_i1 (i f : Nat) : Int32 := match i with
  | 0 => match f with
    | 7 => -1
    | 8 => -1
    | _ => nI 0
  | 1 => xt_pi f
  | 4 => xt_pi f
  | 9 => xt_pi f
  | 12 => xt_pi f
  | 15 => xt_pi f
  | 18 => xt_pi f
  | 21 => xt_pi f
  | 24 => xt_pi f
  | 27 => xt_pi f
  | 30 => xt_pi f
  | 7 => nI 0
  | 46 => nI 0
  | 42 => match f with
    | 0 => -1
    | _ => 0
  | 49 => match f with
    | 10 => -1
    | 13 => -1
    | _ => 0
  | _ => 0
def xt_now : Nat → Int32 := upd (upd (xt_ly (fun _ => 0) 8 8 512) 2 (nI 4)) 3 (nI 2)
def xt_i2 (i : Nat) : Nat → Int32 := if i = 50 then xt_now else fun _ => 0
def xt_S0 : xt_St := (xt_i1, xt_i2, fun _ _ => 0, fun _ _ => 0)
theorem xt_now_e : xt_e5 (xt_S0.2.1 50) (xt_pkp xt_S0 1) := by
  have e0 : xt_S0.2.1 50 = xt_now := rfl
  rw [e0]
  refine xt_e5_3 (fun i hi => ?_) (fun j hj => ?_) (fun j hj => ?_)
  · match i, hi with
    | 0, _ => rfl
    | 1, _ => rfl
    | 2, _ => rfl
    | 3, _ => rfl
    | 4, _ => rfl
    | i + 5, hi => exact absurd hi (by omega)
  · show upd (upd (xt_ly (fun _ => 0) 8 8 512) 2 (nI 4)) 3 (nI 2) (5 + j) = 0
    have g1 : ¬ 5 + j = 3 := by omega
    have g2 : ¬ 5 + j = 2 := by omega
    have g3 : ¬ 5 + j = 0 := by omega
    have g4 : ¬ 5 + j = 1 := by omega
    have g5 : 5 ≤ 5 + j ∧ 5 + j < 5 + 512 := by omega
    unfold upd xt_ly
    rw [if_neg g1, if_neg g2, if_neg g3, if_neg g4, if_pos g5]
    exact nI_0
  · show upd (upd (xt_ly (fun _ => 0) 8 8 512) 2 (nI 4)) 3 (nI 2) (261 + j) = 0
    have g1 : ¬ 261 + j = 3 := by omega
    have g2 : ¬ 261 + j = 2 := by omega
    have g3 : ¬ 261 + j = 0 := by omega
    have g4 : ¬ 261 + j = 1 := by omega
    have g5 : 5 ≤ 261 + j ∧ 261 + j < 5 + 512 := by omega
    unfold upd xt_ly
    rw [if_neg g1, if_neg g2, if_neg g3, if_neg g4, if_pos g5]
    exact nI_0
theorem xt_Inv0 : xt_Inv xt_S0 := by
  have hG : xt_Gv (xt_pkp xt_S0 1) := by
    refine ⟨8, 8, 4, 2, 0, ⟨⟨rfl, rfl, rfl, rfl, rfl, by decide, by decide, by decide, by decide, by decide, by decide, by decide⟩, fun j hj => ⟨0, by decide, ?_⟩, fun j hj => Or.inl ?_⟩⟩
    · rw [xt_pkp_1 hj]
      exact nI_0.symm
    · rw [xt_pkp_2]
      exact nI_0.symm
  refine ⟨xt_mk9 (xt_pkp xt_S0 1) [] none 0 (fun _ => 0) none none none, ⟨hG, fun f h => absurd h List.not_mem_nil, fun f h => by cases h⟩, ⟨xt_e5_rf, ⟨0, ⟨rfl, rfl, by decide, by decide⟩, fun i f h => xt_nil9 h⟩, rfl, ⟨rfl, by decide, fun j hj => absurd hj (Nat.not_lt_zero j)⟩, rfl, rfl, rfl⟩, ⟨xt_now_e, ⟨nI_0.symm, by decide, fun i f h => xt_nil9 h⟩, nI_0.symm, ⟨nI_0.symm, by decide, fun j hj => absurd hj (Nat.not_lt_zero j)⟩, rfl, nI_0.symm, rfl⟩⟩
theorem xt_arrV_c {cA : ClassId} {N : Nat} {f g : Nat → Value} (h : ∀ j, j < N → f j = g j) : arrV cA N f = arrV cA N g := by
  unfold arrV
  congr 1
  congr 1
  funext j
  exact h j.1 j.2
theorem yv_istore {E : xt_Ev} {cx : xt_Cx} {Z : State → Prop} {k n pc nL : Nat} {lo lo' : List (Option Value)} {st : List Value} {w : va_W} {own : String} {cc : ByteArray} {ret : Option FieldType} {rm : Room} (C : xt_Ok0 own cc nL ret rm E cx) {q : Nat} {x : Int32} (d : decode cc pc = .ok (.istore q, 2)) (hi : q < lo.length) (hc : xt_cat2 lo q = false) (hl : lo.set q (some (.int x)) = lo') (kk : xt_Yw E cx Z k n (pc + 2) lo' st w) : xt_Yw E cx Z k n pc lo (.int x :: st) w := fun H locs ls h1 hD h2 h3 => lv_istore C.1 C.2.1 d (xt_lh_has h3) hi rfl (fun ls' h9 => kk H locs ls' h1 hD h2 (hl ▸ xt_st1 h9 hc))
/-- a world of 69 cells, told as the state xt_S0 -/
theorem xt_setup {E : xt_Ev} {ad : List Nat} {W : va_W} {H : Heap} (hl : ad.length = 69) (hm : W.map Prod.fst = ad) (hP : va_P E.2.2.1 vwCl W H) (hD : va_D (xt_Af E) W) {f : Nat → Option Nat} (hf : ∀ j, j < 8 → f j = some (ad.getD (9 + 3 * j) 0))
    (h8 : W[8]? = some (ad.getD 8 0, .inl (E.2.2.2.1 5, 8, .inr (.inr (.inr (.inr f))))))
    (hW : ∀ i, i < 69 → i ≠ 8 → W[i]? = some (ad.getD i 0, xt_cell (fun i => ad.getD i 0, E.2) xt_S0 i)) : xt_Eo (fun i => ad.getD i 0, E.2) ∧ xt_Lk (fun i => ad.getD i 0, E.2) xt_S0 H := by
  have hat : ∀ i, i < 69 → ∃ e, W[i]? = some (ad.getD i 0, e) := by
    intro i hi
    have h1 : i < W.length := by
      have := congrArg List.length hm
      rw [List.length_map] at this
      omega
    refine ⟨W[i].2, ?_⟩
    rw [List.getElem?_eq_getElem h1]
    have h2 : ad[i]? = some (W[i].1) := by rw [← hm, List.getElem?_map, List.getElem?_eq_getElem h1]; rfl
    have h3 : ad.getD i 0 = W[i].1 := by rw [List.getD_eq_getElem?_getD, h2]; rfl
    rw [h3]
  refine ⟨⟨fun i j hi hj e => ?_, fun i hi => ?_⟩, fun k q hk => ?_⟩
  · obtain ⟨e1, h1⟩ := hat i hi
    obtain ⟨e2, h2⟩ := hat j hj
    exact hD.1 i j _ _ h1 h2 e
  · obtain ⟨e1, h1⟩ := hat i hi
    exact hD.2 i _ h1
  · obtain ⟨h1, rfl⟩ := xt_wl_of hk
    by_cases h9 : k = 8
    · subst h9
      have h2 := hP 8 _ h8
      show H[ad.getD 8 0]? = some (vp_cell _ _)
      have h3 : H[ad.getD 8 0]? = some (vp_cell (E.2.2.2.1 5) (8, .inr (.inr (.inr (.inr f))))) := h2
      rw [h3, vp_cell_q, vp_cell_q]
      congr 1
      refine xt_arrV_c (fun j hj => ?_)
      rw [hf j hj]
    · exact hP k _ (hW k h1 h9)
variable {E : xt_Ev} {cx : xt_Cx} {b : Nat} {Z : State → Prop}
set_option maxRecDepth 100000 in
set_option maxHeartbeats 20000000 in
theorem la_start (C : xt_Ok0 RL cL_law 9 ret room_1 E cx) (kk : ∀ E' : xt_Ev, E'.2 = E.2 → xt_Ok RL cL_law 9 ret room_1 E' cx → ∀ k n, k ≤ 100 → n ≤ 100000 → xt_X E' cx Z k n 28 (xt_lv9 E' b 0 none none none) [] xt_S0) : xt_Yw E cx Z 0 0 0 [some (.ref b), none, none, none, none, none, none, none, none] [] [] := by
  refine yv_new (ci := 5) C xt_u5 tyX5 tyX5_ok lkcL_8 it_X5 ii_X5 rfl df_X5 ⟨Nat.le_of_ble_eq_true rfl, Nat.le_of_ble_eq_true rfl⟩ dL_law_0 (fun a => ?_)
  refine yv_dup C dL_law_3 rfl ?_
  refine yv_ctor C mi_X5 rfl lkL_120 (cn_X5 [] a) ⟨Nat.le_of_ble_eq_true rfl, Nat.le_of_ble_eq_true rfl, Nat.le_of_ble_eq_true rfl, Nat.le_of_ble_eq_true rfl⟩ rfl (Nat.le_of_ble_eq_true rfl) dL_law_4 (fun v9 w9 h9 => ?_)
  obtain ⟨rfl, q, f, hf, hw5⟩ := h9
  show xt_Yw E cx Z _ _ 7 [some (.ref b), none, none, none, none, none, none, none, none] [.ref a] w9
  refine yv_astore_n C dL_law_7 (Nat.le_of_ble_eq_true rfl) rfl rfl ?_
  refine yv_new (ci := 6) C xt_u6 tyX6 tyX6_ok lkcL_121 it_X6 ii_X6 rfl df_X6 ⟨Nat.le_of_ble_eq_true rfl, Nat.le_of_ble_eq_true rfl⟩ dL_law_8 (fun am => ?_)
  refine yv_dup C dL_law_11 rfl ?_
  refine yv_ctor C mi_X6 rfl lkL_123 (cn_X6 w9 am) ⟨Nat.le_of_ble_eq_true rfl, Nat.le_of_ble_eq_true rfl, Nat.le_of_ble_eq_true rfl, Nat.le_of_ble_eq_true rfl⟩ rfl (Nat.le_of_ble_eq_true rfl) dL_law_12 (fun v8 w8 h8 => ?_)
  obtain ⟨rfl, qm, hw6⟩ := h8
  show xt_Yw E cx Z _ _ 15 [some (.ref b), some (.ref a), none, none, none, none, none, none, none] [.ref am] w8
  refine yv_astore_n C dL_law_15 (Nat.le_of_ble_eq_true rfl) rfl rfl ?_
  refine yv_iconst (v := nI 1) C dL_law_16 rfl ?_
  refine yv_newa (atype := .long) (i := 1) (a0 := (1, .inr (.inl (fun _ => 0)))) C ac_long rfl rfl (fun _ => rfl) (by decide) (nI_clamp (by decide)) (by decide) ⟨Nat.le_of_ble_eq_true rfl, Nat.le_of_ble_eq_true rfl⟩ dL_law_17 (fun o1 => ?_)
  refine yv_astore_n C dL_law_19 (Nat.le_of_ble_eq_true rfl) rfl rfl ?_
  refine yv_iconst (v := nI 1) C dL_law_20 rfl ?_
  refine yv_newa (atype := .double) (i := 2) (a0 := (1, .inr (.inr (.inr (.inl (fun _ => 0)))))) C ac_double rfl rfl (fun _ => rfl) (by decide) (nI_clamp (by decide)) (by decide) ⟨Nat.le_of_ble_eq_true rfl, Nat.le_of_ble_eq_true rfl⟩ dL_law_21 (fun o2 => ?_)
  refine yv_astore C dL_law_23 (Nat.le_of_ble_eq_true rfl) rfl rfl ?_
  refine yv_iconst (v := nI 0) C dL_law_25 rfl ?_
  refine yv_istore C dL_law_26 (Nat.le_of_ble_eq_true rfl) rfl rfl ?_
  intro H locs ls hP hD hS hl
  subst hw5
  subst hw6
  have hs := xt_setup (E := E) (ad := [a, q 1, q 2, q 3, q 4, q 5, q 6, q 7, q 8, q 9, q 10, q 11, q 12, q 13, q 14, q 15, q 16, q 17, q 18, q 19, q 20, q 21, q 22, q 23, q 24, q 25, q 26, q 27, q 28, q 29, q 30, q 31, q 32, q 33, q 34, q 35, q 36, q 37, q 38, q 39, q 40, q 41, q 42, q 43, q 44, q 45, q 46, q 47, q 48, am, qm 50, qm 51, qm 52, qm 53, qm 54, qm 55, qm 56, qm 57, qm 58, qm 59, qm 60, qm 61, qm 62, qm 63, qm 64, qm 65, qm 66, o1, o2]) (f := f) rfl rfl hP hD (fun j hj => by
    match j, hj with
    | 0, _ => exact hf 0 (by decide)
    | 1, _ => exact hf 1 (by decide)
    | 2, _ => exact hf 2 (by decide)
    | 3, _ => exact hf 3 (by decide)
    | 4, _ => exact hf 4 (by decide)
    | 5, _ => exact hf 5 (by decide)
    | 6, _ => exact hf 6 (by decide)
    | 7, _ => exact hf 7 (by decide)
    | j + 8, hj => exact absurd hj (by omega)) rfl (fun i hi h8 => by
    match i, hi, h8 with
    | 0, _, _ => exact rfl
    | 1, _, _ => exact rfl
    | 2, _, _ => exact rfl
    | 3, _, _ => exact rfl
    | 4, _, _ => exact rfl
    | 5, _, _ => exact rfl
    | 6, _, _ => exact rfl
    | 7, _, _ => exact rfl
    | 9, _, _ => exact rfl
    | 10, _, _ => exact rfl
    | 11, _, _ => exact rfl
    | 12, _, _ => exact rfl
    | 13, _, _ => exact rfl
    | 14, _, _ => exact rfl
    | 15, _, _ => exact rfl
    | 16, _, _ => exact rfl
    | 17, _, _ => exact rfl
    | 18, _, _ => exact rfl
    | 19, _, _ => exact rfl
    | 20, _, _ => exact rfl
    | 21, _, _ => exact rfl
    | 22, _, _ => exact rfl
    | 23, _, _ => exact rfl
    | 24, _, _ => exact rfl
    | 25, _, _ => exact rfl
    | 26, _, _ => exact rfl
    | 27, _, _ => exact rfl
    | 28, _, _ => exact rfl
    | 29, _, _ => exact rfl
    | 30, _, _ => exact rfl
    | 31, _, _ => exact rfl
    | 32, _, _ => exact rfl
    | 33, _, _ => exact rfl
    | 34, _, _ => exact rfl
    | 35, _, _ => exact rfl
    | 36, _, _ => exact rfl
    | 37, _, _ => exact rfl
    | 38, _, _ => exact rfl
    | 39, _, _ => exact rfl
    | 40, _, _ => exact rfl
    | 41, _, _ => exact rfl
    | 42, _, _ => exact rfl
    | 43, _, _ => exact rfl
    | 44, _, _ => exact rfl
    | 45, _, _ => exact rfl
    | 46, _, _ => exact rfl
    | 47, _, _ => exact rfl
    | 48, _, _ => exact rfl
    | 49, _, _ => exact rfl
    | 50, _, _ => exact rfl
    | 51, _, _ => exact rfl
    | 52, _, _ => exact rfl
    | 53, _, _ => exact rfl
    | 54, _, _ => exact rfl
    | 55, _, _ => exact rfl
    | 56, _, _ => exact rfl
    | 57, _, _ => exact rfl
    | 58, _, _ => exact rfl
    | 59, _, _ => exact rfl
    | 60, _, _ => exact rfl
    | 61, _, _ => exact rfl
    | 62, _, _ => exact rfl
    | 63, _, _ => exact rfl
    | 64, _, _ => exact rfl
    | 65, _, _ => exact rfl
    | 66, _, _ => exact rfl
    | 67, _, _ => exact rfl
    | 68, _, _ => exact rfl
    | 8, _, h8 => exact absurd rfl h8
    | i + 69, hi, _ => exact absurd hi (by omega))
  refine kk (fun i => ([a, q 1, q 2, q 3, q 4, q 5, q 6, q 7, q 8, q 9, q 10, q 11, q 12, q 13, q 14, q 15, q 16, q 17, q 18, q 19, q 20, q 21, q 22, q 23, q 24, q 25, q 26, q 27, q 28, q 29, q 30, q 31, q 32, q 33, q 34, q 35, q 36, q 37, q 38, q 39, q 40, q 41, q 42, q 43, q 44, q 45, q 46, q 47, q 48, am, qm 50, qm 51, qm 52, qm 53, qm 54, qm 55, qm 56, qm 57, qm 58, qm 59, qm 60, qm 61, qm 62, qm 63, qm 64, qm 65, qm 66, o1, o2] : List Nat).getD i 0, E.2) rfl ⟨C.1, C.2.1, C.2.2.1, C.2.2.2.1, C.2.2.2.2.1, xt_Kn_K0 hs.1 C.2.2.2.2.2.1.1, C.2.2.2.2.2.2.1, C.2.2.2.2.2.2.2.1, C.2.2.2.2.2.2.2.2⟩ _ _ ?_ ?_ H locs ls hs.2 hS hl
  · exact Nat.le_of_ble_eq_true rfl
  · exact Nat.le_of_ble_eq_true rfl
end XS1
