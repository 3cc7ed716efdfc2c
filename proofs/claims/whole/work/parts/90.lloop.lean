/-! the law's loop -/
section XR6
variable {E : xt_Ev} {cx : xt_Cx} {b L : Nat} {xs : Nat → Int32} {Z : State → Prop}
theorem xt_in6 {L i : Nat} (hL : L ≤ 3072) (hi : i ≤ L) (c : ¬ (nI L - nI 6 < nI i)) : i + 6 ≤ L := by
  rcases Nat.lt_or_ge L 6 with h | h
  · exfalso
    apply c
    rw [Int32.lt_iff_toInt_lt, nI_toInt (by omega)]
    have h9 : ∀ z : Nat, z < 6 → (nI z - nI 6).toInt < 0 := by decide
    have := h9 L h
    omega
  · have e : nI L - nI 6 = nI (L - 6) := by
      rw [show L = (L - 6) + 6 by omega, ← nI_add, Int32.add_sub_cancel, Nat.add_sub_cancel]
    rw [e] at c
    have h8 : ¬ (L - 6 < i) := fun h => c (nI_lt (a := L - 6) (b := i) h (by omega))
    omega
set_option maxRecDepth 20000 in
set_option maxHeartbeats 4000000 in
theorem la_loop (A : xt_LA E cx b L xs) (hZ : ∀ (k n : Nat) (lo : List (Option Value)) (S : xt_St), k ≤ 601024 → n ≤ 7293034 → xt_X E cx Z k n 2314 lo [] S) :
    ∀ d i k n S, i ≤ L → L < i + 6 * d → k + d ≤ 601024 → n + 6 * d ≤ 7293034 → xt_Inv S → xt_X E cx Z k n 28 (xt_lv9 E b i none none none) [] S := by
  have hL := A.2.2.2.2.1
  intro d
  induction d with
  | zero =>
    intro i k n S h1 h2
    omega
  | succ d ih =>
    intro i k n S h1 h2 h3 h4 hI
    refine xt_iload A.1 dL_law_28 rfl ?_
    refine xt_aload_n A.1 dL_law_30 rfl ?_
    refine xt_sln A dL_law_31 ?_
    refine xt_bipush (v := nI 6) A.1 dL_law_32 (by decide) ?_
    refine xt_isub A.1 dL_law_34 ?_
    refine xt_icmp_gt (tgt := 2314) A.1 dL_law_35 (by decide) (fun c9 => hZ k n _ S (by omega) (by omega)) (fun c9 => ?_)
    have hi6 := xt_in6 hL h1 c9
    have kk : ∀ S9, xt_Inv S9 → xt_X E cx Z (k + 1) (n + 6) 2308 (xt_lv9 E b i none none none) [] S9 := by
      intro S9 hI9
      refine xt_iincN (a := i) (z := 6) A.1 dL_law_2308 rfl rfl rfl ?_
      refine xt_goto (tgt := 28) A.1 dL_law_2311 (by decide) ?_
      exact ih (i + 6) (k + 1) (n + 6) S9 hi6 (by omega) (by omega) (by omega) hI9
    have hk : k + 1 ≤ 601024 ∧ n + 6 ≤ 7293034 := ⟨by omega, by omega⟩
    refine xt_aload_n A.1 dL_law_38 rfl ?_
    refine xt_iload A.1 dL_law_39 rfl ?_
    refine xt_sld A (by omega) dL_law_41 ?_
    refine xt_bipush (v := nI 31) A.1 dL_law_42 (by decide) ?_
    refine xt_iand A.1 dL_law_44 ?_
    obtain ⟨j, hj, ej⟩ := xt_and31 (xs i)
    rw [ej]
    match j, hj with
    | 0, _ => exact xt_tabIn (off := 139) (tgt := 184) A.1 dL_law_45 (by decide) (by decide) (by decide) (by decide) (la_size A hi6 hk hI kk)
    | 1, _ => exact xt_tabIn (off := 207) (tgt := 252) A.1 dL_law_45 (by decide) (by decide) (by decide) (by decide) (la_setting A hi6 hk hI kk)
    | 2, _ => exact xt_tabIn (off := 275) (tgt := 320) A.1 dL_law_45 (by decide) (by decide) (by decide) (by decide) (la_number A hi6 hk hI kk)
    | 3, _ => exact xt_tabIn (off := 331) (tgt := 376) A.1 dL_law_45 (by decide) (by decide) (by decide) (by decide) (la_set A hi6 hk hI kk)
    | 4, _ => exact xt_tabIn (off := 411) (tgt := 456) A.1 dL_law_45 (by decide) (by decide) (by decide) (by decide) (la_pixel A hi6 hk hI kk)
    | 5, _ => exact xt_tabIn (off := 479) (tgt := 524) A.1 dL_law_45 (by decide) (by decide) (by decide) (by decide) (la_fill A hi6 hk hI kk)
    | 6, _ => exact xt_tabIn (off := 583) (tgt := 628) A.1 dL_law_45 (by decide) (by decide) (by decide) (by decide) (la_mask A hi6 hk hI kk)
    | 7, _ => exact xt_tabIn (off := 703) (tgt := 748) A.1 dL_law_45 (by decide) (by decide) (by decide) (by decide) (la_tileOf A hi6 hk hI kk)
    | 8, _ => exact xt_tabIn (off := 771) (tgt := 816) A.1 dL_law_45 (by decide) (by decide) (by decide) (by decide) (la_tile A hi6 hk hI kk)
    | 9, _ => exact xt_tabIn (off := 839) (tgt := 884) A.1 dL_law_45 (by decide) (by decide) (by decide) (by decide) (la_raise A hi6 hk hI kk)
    | 10, _ => exact xt_tabIn (off := 907) (tgt := 952) A.1 dL_law_45 (by decide) (by decide) (by decide) (by decide) (la_swap A hi6 hk hI kk)
    | 11, _ => exact xt_tabIn (off := 975) (tgt := 1020) A.1 dL_law_45 (by decide) (by decide) (by decide) (by decide) (la_soften A hi6 hk hI kk)
    | 12, _ => exact xt_tabIn (off := 1043) (tgt := 1088) A.1 dL_law_45 (by decide) (by decide) (by decide) (by decide) (la_coefficient A hi6 hk hI kk)
    | 13, _ => exact xt_tabIn (off := 1123) (tgt := 1168) A.1 dL_law_45 (by decide) (by decide) (by decide) (by decide) (la_band A hi6 hk hI kk)
    | 14, _ => exact xt_tabIn (off := 1203) (tgt := 1248) A.1 dL_law_45 (by decide) (by decide) (by decide) (by decide) (la_layerOf A hi6 hk hI kk)
    | 15, _ => exact xt_tabIn (off := 1295) (tgt := 1340) A.1 dL_law_45 (by decide) (by decide) (by decide) (by decide) (la_bits A hi6 hk hI kk)
    | 16, _ => exact xt_tabIn (off := 1363) (tgt := 1408) A.1 dL_law_45 (by decide) (by decide) (by decide) (by decide) (la_descendants A hi6 hk hI kk)
    | 17, _ => exact xt_tabIn (off := 1443) (tgt := 1488) A.1 dL_law_45 (by decide) (by decide) (by decide) (by decide) (la_roots A hi6 hk hI kk)
    | 18, _ => exact xt_tabIn (off := 1511) (tgt := 1556) A.1 dL_law_45 (by decide) (by decide) (by decide) (by decide) (la_needed A hi6 hk hI kk)
    | 19, _ => exact xt_tabIn (off := 1579) (tgt := 1624) A.1 dL_law_45 (by decide) (by decide) (by decide) (by decide) (la_decoded A hi6 hk hI kk)
    | 20, _ => exact xt_tabIn (off := 1659) (tgt := 1704) A.1 dL_law_45 (by decide) (by decide) (by decide) (by decide) (la_worst A hi6 hk hI kk)
    | 21, _ => exact xt_tabIn (off := 1755) (tgt := 1800) A.1 dL_law_45 (by decide) (by decide) (by decide) (by decide) (la_meanSquare A hi6 hk hI kk)
    | 22, _ => exact xt_tabIn (off := 1832) (tgt := 1877) A.1 dL_law_45 (by decide) (by decide) (by decide) (by decide) (la_plan A hi6 hk hI kk)
    | 23, _ => exact xt_tabIn (off := 1888) (tgt := 1933) A.1 dL_law_45 (by decide) (by decide) (by decide) (by decide) (la_planned A hi6 hk hI kk)
    | 24, _ => exact xt_tabIn (off := 1944) (tgt := 1989) A.1 dL_law_45 (by decide) (by decide) (by decide) (by decide) (la_feed A hi6 hk hI kk)
    | 25, _ => exact xt_tabIn (off := 2002) (tgt := 2047) A.1 dL_law_45 (by decide) (by decide) (by decide) (by decide) (la_read A hi6 hk hI kk)
    | 26, _ => exact xt_tabIn (off := 2046) (tgt := 2091) A.1 dL_law_45 (by decide) (by decide) (by decide) (by decide) (la_faultPosition A hi6 hk hI kk)
    | 27, _ => exact xt_tabIn (off := 2090) (tgt := 2135) A.1 dL_law_45 (by decide) (by decide) (by decide) (by decide) (la_refusal A hi6 hk hI kk)
    | 28, _ => exact xt_tabIn (off := 2162) (tgt := 2207) A.1 dL_law_45 (by decide) (by decide) (by decide) (by decide) (la_undo A hi6 hk hI kk)
    | 29, _ => exact xt_tabIn (off := 2206) (tgt := 2251) A.1 dL_law_45 (by decide) (by decide) (by decide) (by decide) (la_save A hi6 hk hI kk)
    | 30, _ => exact xt_tabIn (off := 2219) (tgt := 2264) A.1 dL_law_45 (by decide) (by decide) (by decide) (by decide) (la_restoreSnapshot A hi6 hk hI kk)
    | 31, _ =>
      refine xt_tabOut (tgt := 2308) A.1 dL_law_45 (by decide) (by decide) ?_
      refine xt_iincN (a := i) (z := 6) A.1 dL_law_2308 rfl rfl rfl ?_
      refine xt_goto (tgt := 28) A.1 dL_law_2311 (by decide) ?_
      exact ih (i + 6) k n S hi6 (by omega) (by omega) (by omega) hI
    | j + 32, hj => exact absurd hj (by omega)
end XR6
