/-! THE MODEL: fills, fill, mask, raise, swap, soften -/
section XM14
variable {E : xt_Ev} {l : Launch} {S : xt_St}
/-- a row g that holds P from part on, and is o elsewhere -/
def xt_fl9 (part : Nat) (g P o : Nat → Int32) : Prop := (∀ j, j < 256 → g (part + j) = P j) ∧ ∀ i, (i < part ∨ part + 256 ≤ i) → g i = o i
theorem xt_fl9_u {part p : Nat} {g P o : Nat → Int32} {z : Int32} (h : xt_fl9 part g P o) (hp : p < 256) : xt_fl9 part (upd g (part + p) z) (upd P p z) o := by
  refine ⟨fun j hj => ?_, fun i hi => ?_⟩
  · by_cases e : j = p
    · rw [e, xt_up_s, xt_up_s]
    · rw [xt_up_n (by omega), xt_up_n e]; exact h.1 j hj
  · rw [xt_up_n (by omega)]; exact h.2 i hi
theorem xt_fl9_p {part p : Nat} {g o : Nat → Int32} {q : (Nat → Int32) × Int32} {z : Int32} (h : xt_fl9 part g q.1 o) (hp : p < 256) : xt_fl9 part (upd g (part + p) z) (xt_ps z p q).1 o := xt_fl9_u h hp
theorem xt_fl9_k {C : xt_St} {g P o : Nat → Int32} (h : xt_fl9 261 g P o) : ∀ j, j < 256 → xt_mK (xt_sA C 50 g) j = P j := fun j hj => by
  unfold xt_mK
  rw [xt_sA_s]
  exact h.1 j hj
def xt_cq (q : (Nat → Int32) × Int32) (B : Nat) : Prop := ∃ m, m ≤ B ∧ q.2 = nI m
theorem xt_cq_s {q : (Nat → Int32) × Int32} {B p : Nat} {v : Int32} (h : xt_cq q B) : xt_cq (xt_ps v p q) (B + 1) := by
  obtain ⟨m, hm, e⟩ := h
  by_cases z : q.1 p = v
  · rw [xt_ps_t z]; exact ⟨m, by omega, e⟩
  · rw [xt_ps_f z]; exact ⟨m + 1, by omega, by show q.2 + 1 = _; rw [e]; exact nI_1 m⟩
theorem xt_cq_r {f : Nat → Nat} {v : Int32} {B : Nat} : ∀ (w : Nat) (q : (Nat → Int32) × Int32), xt_cq q B → xt_cq (xt_it (fun x q => xt_ps v (f x) q) w q) (B + w) := by
  intro w
  induction w with
  | zero => exact fun q h => h
  | succ w ih => exact fun q h => xt_cq_s (ih q h)
theorem xt_cq_g {f : Nat → Nat → Nat} {v : Int32} {w : Nat} {q : (Nat → Int32) × Int32} (hq : xt_cq q 0) : ∀ h, xt_cq (xt_it (fun y q => xt_it (fun x q => xt_ps v (f y x) q) w q) h q) (h * w) := by
  intro h
  induction h with
  | zero => rw [Nat.zero_mul]; exact hq
  | succ h ih =>
    rw [Nat.add_mul, Nat.one_mul]
    exact xt_cq_r w _ ih
theorem xt_paint_n {c lf tp w h : Nat} {v : Int32} {f : Nat → Int32} (hw : w ≤ 16) (hh : h ≤ 16) : 0 ≤ (xt_paint c lf tp w h v f).2 := by
  obtain ⟨m, hm, e⟩ := xt_cq_g (f := fun y x => (tp + y) * c + (lf + x)) (v := v) (w := w) (q := (f, 0)) ⟨0, by omega, rfl⟩ h
  have h1 : h * w ≤ 16 * 16 := Nat.mul_le_mul hh hw
  have e2 : (xt_paint c lf tp w h v f).2 = nI m := e
  rw [e2]
  exact nI_pos' (by omega)
theorem xt_ix16 {c x y : Nat} (hx : x < c) (hy : y < 16) (hc : c ≤ 16) : y * c + x < 256 := by
  have h1 : (y + 1) * c ≤ 16 * 16 := Nat.mul_le_mul (by omega) hc
  rw [Nat.add_mul] at h1
  omega
set_option maxRecDepth 20000 in
set_option maxHeartbeats 2000000 in
theorem ct_mfills {a : Nat} (hi : a < xt_NC) (ha : xt_ar E 0 a 517) {part : Nat} (hp5 : 5 ≤ part) (hp : part ≤ 261) {c : Nat} (hc16 : c ≤ 16) (hc0 : S.2.1 a 0 = nI c) {f : Nat → Int32} (hf : ∀ j, j < 256 → S.2.1 a (part + j) = f j) {lf tp w h : Nat} (hw : lf + w ≤ c) (hh : tp + h ≤ 16) (hw0 : 0 < w) (hh0 : 0 < h) {v : Int32} : xt_Ct E l yX6_fills cX6_fills 12 (some Jvm.ClassFile.FieldType.int) 0 0 0 0 [.ref (E.1 49), .ref (E.1 a), .int (nI part), .int (nI lf), .int (nI tp), .int (nI (lf + w - 1)), .int (nI (tp + h - 1)), .int v] S (xt_Ep (some (.int (xt_paint c lf tp w h v f).2)) (fun S9 => ∃ g, S9 = xt_sA S a g ∧ xt_fl9 part g (xt_paint c lf tp w h v f).1 (S.2.1 a))) := by
  refine xt_body (by decide +kernel) (xt_all rfl) (Nat.le_of_ble_eq_true rfl) (fun cx C hl9 => ?_)
  show xt_X E cx _ 0 0 0 [some (.ref (E.1 49)), some (.ref (E.1 a)), some (.int (nI part)), some (.int (nI lf)), some (.int (nI tp)), some (.int (nI (lf + w - 1))), some (.int (nI (tp + h - 1))), some (.int v), none, none, none, none] [] S
  have out1 : ∀ (d1 y : Nat) (g : Nat → Int32), y ≤ h → (xt_fl9 part g (xt_it (fun y q => xt_it (fun x q => xt_ps v ((tp + y) * c + (lf + x)) q) w q) y (f, 0)).1 (S.2.1 a)) → h + 1 ≤ y + d1 → xt_X E cx (xt_ZM E cx 0 0 (xt_Ep (some (.int (xt_paint c lf tp w h v f).2)) (fun S9 => ∃ g, S9 = xt_sA S a g ∧ xt_fl9 part g (xt_paint c lf tp w h v f).1 (S.2.1 a)))) 0 0 7 [some (.ref (E.1 49)), some (.ref (E.1 a)), some (.int (nI part)), some (.int (nI lf)), some (.int (nI tp)), some (.int (nI (lf + w - 1))), some (.int (nI (tp + h - 1))), some (.int v), some (.int (xt_it (fun y q => xt_it (fun x q => xt_ps v ((tp + y) * c + (lf + x)) q) w q) y (f, 0)).2), some (.int (nI (tp + y))), none, none] [] (xt_sA S a g) := by
    intro d1
    induction d1 with
    | zero => intro y g h0y hg h1y; exact absurd h1y (by omega)
    | succ d1 ih1 =>
      intro y g h0y hg h1y
      refine xt_iload C dX6_fills_7 rfl ?_
      refine xt_iload C dX6_fills_9 rfl ?_
      refine xt_icmp_gtN (tgt := 67) C dX6_fills_11 (by decide) (by omega) (by omega) (fun c11 => ?_) (fun c11 => ?_)
      · refine xt_iload C dX6_fills_67 rfl ?_
        exact xt_iret C dX6_fills_69 ⟨by decide, by decide⟩ ⟨by rw [show y = h by omega]; rfl, g, rfl, by rw [show y = h by omega] at hg; exact hg⟩
      · refine xt_iload_n C dX6_fills_14 rfl ?_
        refine xt_istore (lo' := [_, _, _, _, _, _, _, _, _, _, _, _]) C dX6_fills_15 (Nat.le_of_ble_eq_true rfl) rfl rfl ?_
        have in2 : ∀ (d2 x : Nat) (g : Nat → Int32), x ≤ w → (xt_fl9 part g (xt_it (fun x q => xt_ps v ((tp + y) * c + (lf + x)) q) x (xt_it (fun y q => xt_it (fun x q => xt_ps v ((tp + y) * c + (lf + x)) q) w q) y (f, 0))).1 (S.2.1 a)) → w + 1 ≤ x + d2 → xt_X E cx (xt_ZM E cx 0 0 (xt_Ep (some (.int (xt_paint c lf tp w h v f).2)) (fun S9 => ∃ g, S9 = xt_sA S a g ∧ xt_fl9 part g (xt_paint c lf tp w h v f).1 (S.2.1 a)))) 0 0 17 [some (.ref (E.1 49)), some (.ref (E.1 a)), some (.int (nI part)), some (.int (nI lf)), some (.int (nI tp)), some (.int (nI (lf + w - 1))), some (.int (nI (tp + h - 1))), some (.int v), some (.int (xt_it (fun x q => xt_ps v ((tp + y) * c + (lf + x)) q) x (xt_it (fun y q => xt_it (fun x q => xt_ps v ((tp + y) * c + (lf + x)) q) w q) y (f, 0))).2), some (.int (nI (tp + y))), some (.int (nI (lf + x))), none] [] (xt_sA S a g) := by
          intro d2
          induction d2 with
          | zero => intro x g h0x hg h1x; exact absurd h1x (by omega)
          | succ d2 ih2 =>
            intro x g h0x hg h1x
            refine xt_iload C dX6_fills_17 rfl ?_
            refine xt_iload C dX6_fills_19 rfl ?_
            refine xt_icmp_gtN (tgt := 61) C dX6_fills_21 (by decide) (by omega) (by omega) (fun c21 => ?_) (fun c21 => ?_)
            · refine xt_iincN (z := 1) (lo' := [_, _, _, _, _, _, _, _, _, _, _, _]) C dX6_fills_61 rfl rfl rfl ?_
              refine xt_goto (tgt := 7) C dX6_fills_64 (by decide) ?_
              have hx9 : x = w := by omega
              subst hx9
              exact xt_fg (by repeat' constructor) (ih1 (y + 1) g (by omega) hg (by omega))
            · refine xt_iload_n C dX6_fills_24 rfl ?_
              refine xt_aload_n C dX6_fills_25 rfl ?_
              refine xt_iconst (v := nI 0) C dX6_fills_26 rfl ?_
              refine xt_ialdN C hi ha (by decide) (by decide) (show (xt_sA S a g).2.1 a 0 = nI c from by rw [xt_sA_s, hg.2 0 (by omega)]; exact hc0) dX6_fills_27 ?_
              refine xt_iload C dX6_fills_28 rfl ?_
              refine xt_imulN C dX6_fills_30 ?_
              refine xt_iaddN C dX6_fills_31 ?_
              refine xt_iload C dX6_fills_32 rfl ?_
              refine xt_iaddN C dX6_fills_34 ?_
              rw [show part + c * (tp + y) + (lf + x) = part + ((tp + y) * c + (lf + x)) by rw [Nat.mul_comm c, Nat.add_assoc]]
              have hix := xt_ix16 (c := c) (x := lf + x) (y := tp + y) (by omega) (by omega) hc16
              refine xt_istore (lo' := [_, _, _, _, _, _, _, _, _, _, _, _]) C dX6_fills_35 (Nat.le_of_ble_eq_true rfl) rfl rfl ?_
              refine xt_aload_n C dX6_fills_37 rfl ?_
              refine xt_iload C dX6_fills_38 rfl ?_
              refine xt_ialdN C hi ha (by omega) (by decide) (show (xt_sA S a g).2.1 a (part + ((tp + y) * c + (lf + x))) = (xt_it (fun x q => xt_ps v ((tp + y) * c + (lf + x)) q) x (xt_it (fun y q => xt_it (fun x q => xt_ps v ((tp + y) * c + (lf + x)) q) w q) y (f, 0))).1 ((tp + y) * c + (lf + x)) from by rw [xt_sA_s]; exact hg.1 _ hix) dX6_fills_40 ?_
              refine xt_iload C dX6_fills_41 rfl ?_
              refine xt_icmp_eq (tgt := 49) C dX6_fills_43 (by decide) (fun c43 => ?_) (fun c43 => ?_)
              · refine xt_aload_n C dX6_fills_49 rfl ?_
                refine xt_iload C dX6_fills_50 rfl ?_
                refine xt_iload C dX6_fills_52 rfl ?_
                refine xt_iastN C hi ha (by omega) (by decide) dX6_fills_54 ?_
                rw [xt_sA_s, xt_sA_sA]
                refine xt_iincN (z := 1) (lo' := [_, _, _, _, _, _, _, _, _, _, _, _]) C dX6_fills_55 rfl rfl rfl ?_
                refine xt_goto (tgt := 17) C dX6_fills_58 (by decide) ?_
                have h9 := ih2 (x + 1) _ (by omega) (xt_fl9_p (z := v) hg hix) (by omega)
                rw [show xt_it (fun x q => xt_ps v ((tp + y) * c + (lf + x)) q) (x + 1) (xt_it (fun y q => xt_it (fun x q => xt_ps v ((tp + y) * c + (lf + x)) q) w q) y (f, 0)) = xt_ps v ((tp + y) * c + (lf + x)) (xt_it (fun x q => xt_ps v ((tp + y) * c + (lf + x)) q) x (xt_it (fun y q => xt_it (fun x q => xt_ps v ((tp + y) * c + (lf + x)) q) w q) y (f, 0))) from rfl] at h9
                first
                | rw [xt_ps_t c43] at h9
                | rw [xt_ps_f c43] at h9
                exact xt_fg (by repeat' constructor) h9
              · refine xt_iinc (lo' := [_, _, _, _, _, _, _, _, _, _, _, _]) C dX6_fills_46 rfl rfl rfl rfl ?_
                refine xt_aload_n C dX6_fills_49 rfl ?_
                refine xt_iload C dX6_fills_50 rfl ?_
                refine xt_iload C dX6_fills_52 rfl ?_
                refine xt_iastN C hi ha (by omega) (by decide) dX6_fills_54 ?_
                rw [xt_sA_s, xt_sA_sA]
                refine xt_iincN (z := 1) (lo' := [_, _, _, _, _, _, _, _, _, _, _, _]) C dX6_fills_55 rfl rfl rfl ?_
                refine xt_goto (tgt := 17) C dX6_fills_58 (by decide) ?_
                have h9 := ih2 (x + 1) _ (by omega) (xt_fl9_p (z := v) hg hix) (by omega)
                rw [show xt_it (fun x q => xt_ps v ((tp + y) * c + (lf + x)) q) (x + 1) (xt_it (fun y q => xt_it (fun x q => xt_ps v ((tp + y) * c + (lf + x)) q) w q) y (f, 0)) = xt_ps v ((tp + y) * c + (lf + x)) (xt_it (fun x q => xt_ps v ((tp + y) * c + (lf + x)) q) x (xt_it (fun y q => xt_it (fun x q => xt_ps v ((tp + y) * c + (lf + x)) q) w q) y (f, 0))) from rfl] at h9
                first
                | rw [xt_ps_t c43] at h9
                | rw [xt_ps_f c43] at h9
                exact xt_fg (by repeat' constructor) h9
        exact xt_fg (by repeat' constructor) (in2 (w + 1) 0 g (by omega) hg (by omega))
  refine xt_iconst (v := nI 0) C dX6_fills_0 rfl ?_
  refine xt_istore (lo' := [_, _, _, _, _, _, _, _, _, _, _, _]) C dX6_fills_1 (Nat.le_of_ble_eq_true rfl) rfl rfl ?_
  refine xt_iload C dX6_fills_3 rfl ?_
  refine xt_istore (lo' := [_, _, _, _, _, _, _, _, _, _, _, _]) C dX6_fills_5 (Nat.le_of_ble_eq_true rfl) rfl rfl ?_
  have h9 := out1 (h + 1) 0 (S.2.1 a) (by omega) ⟨hf, fun _ _ => rfl⟩ (by omega)
  rw [xt_sA_self] at h9
  exact xt_fg (by repeat' constructor) h9
set_option maxRecDepth 20000 in
set_option maxHeartbeats 2000000 in
theorem ct_mfill {c r sd lv bo : Nat} (hM : xt_Mp S c r sd lv bo) {v : Nat → Int32} (hvv : ∀ j, j < 256 → xt_mV S j = v j) {kp : Nat} (hu : S.1 49 3 = nI kp) (hk8 : kp ≤ 8) {lf tp w h : Nat} (hw : lf + w ≤ c) (hh2 : tp + h ≤ r) (hw0 : 0 < w) (hh0 : 0 < h) {z : Int32} (hz : nI 0 ≤ z ∧ z ≤ nI 255) : xt_Ct E l yX6_fill cX6_fill 6 (some Jvm.ClassFile.FieldType.int) 2 44 0 0 [.ref (E.1 49), .int (nI lf), .int (nI tp), .int (nI (lf + w - 1)), .int (nI (tp + h - 1)), .int z] S (xt_Ep (some (.int (xt_paint c lf tp w h z v).2)) (fun S9 => ∃ g, S9 = xt_sA (xt_chg (xt_sN S 49 0 (nI 0)) kp) 50 g ∧ xt_fl9 5 g (xt_paint c lf tp w h z v).1 (S.2.1 50))) := by
  refine xt_body (by decide +kernel) (xt_all rfl) (Nat.le_of_ble_eq_true rfl) (fun cx C hl9 => ?_)
  show xt_X E cx _ 0 0 0 [some (.ref (E.1 49)), some (.int (nI lf)), some (.int (nI tp)), some (.int (nI (lf + w - 1))), some (.int (nI (tp + h - 1))), some (.int z)] [] S
  have hM9 := hM
  obtain ⟨hc, hr, hs, hv, hb, b1, b2, b3, b4, b5, b6, b7⟩ := hM
  refine xt_aload_n C dX6_fill_0 rfl ?_
  refine xt_iconst (v := nI 0) C dX6_fill_1 rfl ?_
  refine xt_put (f := 0) C xt_u6 rfl (by decide) (xt_cl49 _ _) (by decide) tyX6 tyX6_ok nmX6 lkX6_74 rfl (tyX6_ok 0 (by decide)) rfl rfl (Nat.le_of_ble_eq_true rfl) rfl dX6_fill_2 ?_
  refine xt_aload_n C dX6_fill_5 rfl ?_
  refine xt_iload_n C dX6_fill_6 rfl ?_
  refine xt_iload_n C dX6_fill_7 rfl ?_
  refine xt_cV C mv_X6_isPixel lkX6_158 (ct_isPixel (by exact hM9)) rfl (by decide) (xt_cl49 _ _) rfl (by decide) rfl (Nat.le_of_ble_eq_true rfl) dX6_fill_8 ?_
  refine xt_if_eqB (tgt := 24) C dX6_fill_11 (by decide) (fun c11 => ?_) (fun c11 => ?_)
  · exact absurd ⟨⟨lf, by omega, rfl⟩, tp, by omega, rfl⟩ c11
  · refine xt_aload_n C dX6_fill_14 rfl ?_
    refine xt_iload_n C dX6_fill_15 rfl ?_
    refine xt_iload C dX6_fill_16 rfl ?_
    refine xt_cV C mv_X6_isPixel lkX6_158 (ct_isPixel (by exact hM9)) rfl (by decide) (xt_cl49 _ _) rfl (by decide) rfl (Nat.le_of_ble_eq_true rfl) dX6_fill_18 ?_
    refine xt_if_neB (tgt := 30) C dX6_fill_21 (by decide) (fun c21 => ?_) (fun c21 => ?_)
    · refine xt_iload_n C dX6_fill_30 rfl ?_
      refine xt_iload_n C dX6_fill_31 rfl ?_
      refine xt_icmp_gtN (tgt := 53) C dX6_fill_32 (by decide) (by omega) (by omega) (fun c32 => ?_) (fun c32 => ?_)
      · exact absurd c32 (by omega)
      · refine xt_iload_n C dX6_fill_35 rfl ?_
        refine xt_iload C dX6_fill_36 rfl ?_
        refine xt_icmp_gtN (tgt := 53) C dX6_fill_38 (by decide) (by omega) (by omega) (fun c38 => ?_) (fun c38 => ?_)
        · exact absurd c38 (by omega)
        · refine xt_iload C dX6_fill_41 rfl ?_
          refine xt_iconst (v := nI 0) C dX6_fill_43 rfl ?_
          refine xt_sipush (v := nI 255) C dX6_fill_44 (by decide) ?_
          refine xt_cS C ms_X6_in lkX6_81 ct_in rfl (by decide) rfl (Nat.le_of_ble_eq_true rfl) dX6_fill_47 ?_
          refine xt_if_neB (tgt := 59) C dX6_fill_50 (by decide) (fun c50 => ?_) (fun c50 => ?_)
          · refine xt_aload_n C dX6_fill_59 rfl ?_
            refine xt_cVn C mv_X6_changes lkX6_145 (ct_changes (by exact hu) hk8) rfl (by decide) (xt_cl49 _ _) rfl (by decide) rfl (Nat.le_of_ble_eq_true rfl) dX6_fill_60 ?_
            have e50 : (xt_chg (xt_sN S 49 0 (nI 0)) kp).2.1 50 = S.2.1 50 := xt_sA_n (by decide)
            have hc5 : (xt_chg (xt_sN S 49 0 (nI 0)) kp).2.1 50 0 = nI c := by rw [e50]; exact hc
            refine xt_aload_n C dX6_fill_63 rfl ?_
            refine xt_aload_n C dX6_fill_64 rfl ?_
            refine xt_get (f := 1) C xt_u6 rfl (by decide) (xt_cl49 _ _) (by decide) lkX6_9 rfl dX6_fill_65 ?_
            refine xt_iconst (v := nI 5) C dX6_fill_68 rfl ?_
            refine xt_iload_n C dX6_fill_69 rfl ?_
            refine xt_iload_n C dX6_fill_70 rfl ?_
            refine xt_iload_n C dX6_fill_71 rfl ?_
            refine xt_iload C dX6_fill_72 rfl ?_
            refine xt_iload C dX6_fill_74 rfl ?_
            refine xt_cVp C mv_X6_fills lkX6_161 (ct_mfills (by decide) (xt_cl50 _) (by decide) (by decide) b2 hc5 (f := v) (fun j hj => by rw [e50]; exact hvv j hj) hw (by omega) hw0 hh0) rfl (by decide) (xt_cl49 _ _) rfl (by decide) rfl (Nat.le_of_ble_eq_true rfl) dX6_fill_76 (fun S9 hq9 => ?_)
            obtain ⟨g, rfl, hg⟩ := hq9
            rw [e50] at hg
            exact xt_iret C dX6_fill_79 ⟨by decide, by decide⟩ ⟨rfl, g, rfl, hg⟩
          · exact absurd hz c50
    · exact absurd ⟨⟨lf + w - 1, by omega, rfl⟩, tp + h - 1, by omega, rfl⟩ c21
set_option maxRecDepth 20000 in
set_option maxHeartbeats 2000000 in
theorem ct_mfill_b1 {c r sd lv bo : Nat} (hM : xt_Mp S c r sd lv bo) {x1 y1 x2 y2 z : Int32} (hbad : ¬ (xt_pix c r x1 y1 ∧ xt_pix c r x2 y2)) : xt_Ct E l yX6_fill cX6_fill 6 (some Jvm.ClassFile.FieldType.int) 2 44 0 0 [.ref (E.1 49), .int x1, .int y1, .int x2, .int y2, .int z] S (xt_Ep (some (.int (nI 0))) (xt_mr S 1)) := by
  refine xt_body (by decide +kernel) (xt_all rfl) (Nat.le_of_ble_eq_true rfl) (fun cx C hl9 => ?_)
  show xt_X E cx _ 0 0 0 [some (.ref (E.1 49)), some (.int x1), some (.int y1), some (.int x2), some (.int y2), some (.int z)] [] S
  have hM9 := hM
  obtain ⟨hc, hr, hs, hv, hb, b1, b2, b3, b4, b5, b6, b7⟩ := hM
  refine xt_aload_n C dX6_fill_0 rfl ?_
  refine xt_iconst (v := nI 0) C dX6_fill_1 rfl ?_
  refine xt_put (f := 0) C xt_u6 rfl (by decide) (xt_cl49 _ _) (by decide) tyX6 tyX6_ok nmX6 lkX6_74 rfl (tyX6_ok 0 (by decide)) rfl rfl (Nat.le_of_ble_eq_true rfl) rfl dX6_fill_2 ?_
  refine xt_aload_n C dX6_fill_5 rfl ?_
  refine xt_iload_n C dX6_fill_6 rfl ?_
  refine xt_iload_n C dX6_fill_7 rfl ?_
  refine xt_cV C mv_X6_isPixel lkX6_158 (ct_isPixel (by exact hM9)) rfl (by decide) (xt_cl49 _ _) rfl (by decide) rfl (Nat.le_of_ble_eq_true rfl) dX6_fill_8 ?_
  refine xt_if_eqB (tgt := 24) C dX6_fill_11 (by decide) (fun c11 => ?_) (fun c11 => ?_)
  · refine xt_aload_n C dX6_fill_24 rfl ?_
    refine xt_iconst (v := nI 1) C dX6_fill_25 rfl ?_
    refine xt_cV C mv_X6_raises lkX6_142 ct_mraises rfl (by decide) (xt_cl49 _ _) rfl (by decide) rfl (Nat.le_of_ble_eq_true rfl) dX6_fill_26 ?_
    exact xt_iret C dX6_fill_29 ⟨by decide, by decide⟩ ⟨rfl, xt_mr_x xt_mfr_rf⟩
  · refine xt_aload_n C dX6_fill_14 rfl ?_
    refine xt_iload_n C dX6_fill_15 rfl ?_
    refine xt_iload C dX6_fill_16 rfl ?_
    refine xt_cV C mv_X6_isPixel lkX6_158 (ct_isPixel (by exact hM9)) rfl (by decide) (xt_cl49 _ _) rfl (by decide) rfl (Nat.le_of_ble_eq_true rfl) dX6_fill_18 ?_
    refine xt_if_neB (tgt := 30) C dX6_fill_21 (by decide) (fun c21 => ?_) (fun c21 => ?_)
    · exact absurd ⟨c11, c21⟩ hbad
    · refine xt_aload_n C dX6_fill_24 rfl ?_
      refine xt_iconst (v := nI 1) C dX6_fill_25 rfl ?_
      refine xt_cV C mv_X6_raises lkX6_142 ct_mraises rfl (by decide) (xt_cl49 _ _) rfl (by decide) rfl (Nat.le_of_ble_eq_true rfl) dX6_fill_26 ?_
      exact xt_iret C dX6_fill_29 ⟨by decide, by decide⟩ ⟨rfl, xt_mr_x xt_mfr_rf⟩
set_option maxRecDepth 20000 in
set_option maxHeartbeats 2000000 in
theorem ct_mfill_b2 {c r sd lv bo : Nat} (hM : xt_Mp S c r sd lv bo) {x1 y1 x2 y2 z : Int32} (h1 : xt_pix c r x1 y1) (h2 : xt_pix c r x2 y2) (hbad : x2 < x1 ∨ ¬ y1 ≤ y2 ∨ ¬ (nI 0 ≤ z ∧ z ≤ nI 255)) : xt_Ct E l yX6_fill cX6_fill 6 (some Jvm.ClassFile.FieldType.int) 2 44 0 0 [.ref (E.1 49), .int x1, .int y1, .int x2, .int y2, .int z] S (xt_Ep (some (.int (nI 0))) (xt_mr S 2)) := by
  refine xt_body (by decide +kernel) (xt_all rfl) (Nat.le_of_ble_eq_true rfl) (fun cx C hl9 => ?_)
  show xt_X E cx _ 0 0 0 [some (.ref (E.1 49)), some (.int x1), some (.int y1), some (.int x2), some (.int y2), some (.int z)] [] S
  have hM9 := hM
  obtain ⟨hc, hr, hs, hv, hb, b1, b2, b3, b4, b5, b6, b7⟩ := hM
  refine xt_aload_n C dX6_fill_0 rfl ?_
  refine xt_iconst (v := nI 0) C dX6_fill_1 rfl ?_
  refine xt_put (f := 0) C xt_u6 rfl (by decide) (xt_cl49 _ _) (by decide) tyX6 tyX6_ok nmX6 lkX6_74 rfl (tyX6_ok 0 (by decide)) rfl rfl (Nat.le_of_ble_eq_true rfl) rfl dX6_fill_2 ?_
  refine xt_aload_n C dX6_fill_5 rfl ?_
  refine xt_iload_n C dX6_fill_6 rfl ?_
  refine xt_iload_n C dX6_fill_7 rfl ?_
  refine xt_cV C mv_X6_isPixel lkX6_158 (ct_isPixel (by exact hM9)) rfl (by decide) (xt_cl49 _ _) rfl (by decide) rfl (Nat.le_of_ble_eq_true rfl) dX6_fill_8 ?_
  refine xt_if_eqB (tgt := 24) C dX6_fill_11 (by decide) (fun c11 => ?_) (fun c11 => ?_)
  · exact absurd h1 c11
  · refine xt_aload_n C dX6_fill_14 rfl ?_
    refine xt_iload_n C dX6_fill_15 rfl ?_
    refine xt_iload C dX6_fill_16 rfl ?_
    refine xt_cV C mv_X6_isPixel lkX6_158 (ct_isPixel (by exact hM9)) rfl (by decide) (xt_cl49 _ _) rfl (by decide) rfl (Nat.le_of_ble_eq_true rfl) dX6_fill_18 ?_
    refine xt_if_neB (tgt := 30) C dX6_fill_21 (by decide) (fun c21 => ?_) (fun c21 => ?_)
    · refine xt_iload_n C dX6_fill_30 rfl ?_
      refine xt_iload_n C dX6_fill_31 rfl ?_
      refine xt_icmp_gt (tgt := 53) C dX6_fill_32 (by decide) (fun c32 => ?_) (fun c32 => ?_)
      · refine xt_aload_n C dX6_fill_53 rfl ?_
        refine xt_iconst (v := nI 2) C dX6_fill_54 rfl ?_
        refine xt_cV C mv_X6_raises lkX6_142 ct_mraises rfl (by decide) (xt_cl49 _ _) rfl (by decide) rfl (Nat.le_of_ble_eq_true rfl) dX6_fill_55 ?_
        exact xt_iret C dX6_fill_58 ⟨by decide, by decide⟩ ⟨rfl, xt_mr_x xt_mfr_rf⟩
      · refine xt_iload_n C dX6_fill_35 rfl ?_
        refine xt_iload C dX6_fill_36 rfl ?_
        refine xt_icmp_gt (tgt := 53) C dX6_fill_38 (by decide) (fun c38 => ?_) (fun c38 => ?_)
        · refine xt_aload_n C dX6_fill_53 rfl ?_
          refine xt_iconst (v := nI 2) C dX6_fill_54 rfl ?_
          refine xt_cV C mv_X6_raises lkX6_142 ct_mraises rfl (by decide) (xt_cl49 _ _) rfl (by decide) rfl (Nat.le_of_ble_eq_true rfl) dX6_fill_55 ?_
          exact xt_iret C dX6_fill_58 ⟨by decide, by decide⟩ ⟨rfl, xt_mr_x xt_mfr_rf⟩
        · refine xt_iload C dX6_fill_41 rfl ?_
          refine xt_iconst (v := nI 0) C dX6_fill_43 rfl ?_
          refine xt_sipush (v := nI 255) C dX6_fill_44 (by decide) ?_
          refine xt_cS C ms_X6_in lkX6_81 ct_in rfl (by decide) rfl (Nat.le_of_ble_eq_true rfl) dX6_fill_47 ?_
          refine xt_if_neB (tgt := 59) C dX6_fill_50 (by decide) (fun c50 => ?_) (fun c50 => ?_)
          · exact hbad.elim (fun q => absurd q c32) (fun q => q.elim (fun q => absurd (Int32.not_lt.mp c38) q) (fun q => absurd c50 q))
          · refine xt_aload_n C dX6_fill_53 rfl ?_
            refine xt_iconst (v := nI 2) C dX6_fill_54 rfl ?_
            refine xt_cV C mv_X6_raises lkX6_142 ct_mraises rfl (by decide) (xt_cl49 _ _) rfl (by decide) rfl (Nat.le_of_ble_eq_true rfl) dX6_fill_55 ?_
            exact xt_iret C dX6_fill_58 ⟨by decide, by decide⟩ ⟨rfl, xt_mr_x xt_mfr_rf⟩
    · exact absurd h2 c21
set_option maxRecDepth 20000 in
set_option maxHeartbeats 2000000 in
theorem ct_mmask {c r sd lv bo : Nat} (hM : xt_Mp S c r sd lv bo) {k : Nat → Int32} (hkk : ∀ j, j < 256 → xt_mK S j = k j) {kp : Nat} (hu : S.1 49 3 = nI kp) (hk8 : kp ≤ 8) {lf tp w h : Nat} (hw : lf + w ≤ c) (hh2 : tp + h ≤ r) (hw0 : 0 < w) (hh0 : 0 < h) {m : Nat} (hm : m ≤ 1) : xt_Ct E l yX6_mask cX6_mask 7 (some Jvm.ClassFile.FieldType.int) 2 44 0 0 [.ref (E.1 49), .int (nI lf), .int (nI tp), .int (nI (lf + w - 1)), .int (nI (tp + h - 1)), .int (nI m)] S (xt_Ep (some (.int (xt_it (fun i s => s + (xt_paint c lf tp w h (nI m) k).1 i) (c * r) 0))) (fun S9 => ∃ g, S9 = xt_sA (xt_chg (xt_sN S 49 0 (nI 0)) kp) 50 g ∧ xt_fl9 261 g (xt_paint c lf tp w h (nI m) k).1 (S.2.1 50))) := by
  refine xt_body (by decide +kernel) (xt_all rfl) (Nat.le_of_ble_eq_true rfl) (fun cx C hl9 => ?_)
  show xt_X E cx _ 0 0 0 [some (.ref (E.1 49)), some (.int (nI lf)), some (.int (nI tp)), some (.int (nI (lf + w - 1))), some (.int (nI (tp + h - 1))), some (.int (nI m)), none] [] S
  have hM9 := hM
  obtain ⟨hc, hr, hs, hv, hb, b1, b2, b3, b4, b5, b6, b7⟩ := hM
  refine xt_aload_n C dX6_mask_0 rfl ?_
  refine xt_iconst (v := nI 0) C dX6_mask_1 rfl ?_
  refine xt_put (f := 0) C xt_u6 rfl (by decide) (xt_cl49 _ _) (by decide) tyX6 tyX6_ok nmX6 lkX6_74 rfl (tyX6_ok 0 (by decide)) rfl rfl (Nat.le_of_ble_eq_true rfl) rfl dX6_mask_2 ?_
  refine xt_aload_n C dX6_mask_5 rfl ?_
  refine xt_iload_n C dX6_mask_6 rfl ?_
  refine xt_iload_n C dX6_mask_7 rfl ?_
  refine xt_cV C mv_X6_isPixel lkX6_158 (ct_isPixel (by exact hM9)) rfl (by decide) (xt_cl49 _ _) rfl (by decide) rfl (Nat.le_of_ble_eq_true rfl) dX6_mask_8 ?_
  refine xt_if_eqB (tgt := 24) C dX6_mask_11 (by decide) (fun c11 => ?_) (fun c11 => ?_)
  · exact absurd ⟨⟨lf, by omega, rfl⟩, tp, by omega, rfl⟩ c11
  · refine xt_aload_n C dX6_mask_14 rfl ?_
    refine xt_iload_n C dX6_mask_15 rfl ?_
    refine xt_iload C dX6_mask_16 rfl ?_
    refine xt_cV C mv_X6_isPixel lkX6_158 (ct_isPixel (by exact hM9)) rfl (by decide) (xt_cl49 _ _) rfl (by decide) rfl (Nat.le_of_ble_eq_true rfl) dX6_mask_18 ?_
    refine xt_if_neB (tgt := 30) C dX6_mask_21 (by decide) (fun c21 => ?_) (fun c21 => ?_)
    · refine xt_iload_n C dX6_mask_30 rfl ?_
      refine xt_iload_n C dX6_mask_31 rfl ?_
      refine xt_icmp_gtN (tgt := 41) C dX6_mask_32 (by decide) (by omega) (by omega) (fun c32 => ?_) (fun c32 => ?_)
      · exact absurd c32 (by omega)
      · refine xt_iload_n C dX6_mask_35 rfl ?_
        refine xt_iload C dX6_mask_36 rfl ?_
        refine xt_icmp_leN (tgt := 47) C dX6_mask_38 (by decide) (by omega) (by omega) (fun c38 => ?_) (fun c38 => ?_)
        · refine xt_aload_n C dX6_mask_47 rfl ?_
          refine xt_cVn C mv_X6_changes lkX6_145 (ct_changes (by exact hu) hk8) rfl (by decide) (xt_cl49 _ _) rfl (by decide) rfl (Nat.le_of_ble_eq_true rfl) dX6_mask_48 ?_
          have e50 : (xt_chg (xt_sN S 49 0 (nI 0)) kp).2.1 50 = S.2.1 50 := xt_sA_n (by decide)
          have hc5 : (xt_chg (xt_sN S 49 0 (nI 0)) kp).2.1 50 0 = nI c := by rw [e50]; exact hc
          refine xt_aload_n C dX6_mask_51 rfl ?_
          refine xt_aload_n C dX6_mask_52 rfl ?_
          refine xt_get (f := 1) C xt_u6 rfl (by decide) (xt_cl49 _ _) (by decide) lkX6_9 rfl dX6_mask_53 ?_
          refine xt_sipush (v := nI 261) C dX6_mask_56 (by decide) ?_
          refine xt_iload_n C dX6_mask_59 rfl ?_
          refine xt_iload_n C dX6_mask_60 rfl ?_
          refine xt_iload_n C dX6_mask_61 rfl ?_
          refine xt_iload C dX6_mask_62 rfl ?_
          refine xt_iload C dX6_mask_64 rfl ?_
          refine xt_if_eqN (tgt := 73) C dX6_mask_66 (by decide) (by omega) (fun c66 => ?_) (fun c66 => ?_)
          · obtain rfl : m = 0 := by omega
            refine xt_iconst (v := nI 0) C dX6_mask_73 rfl ?_
            refine xt_cVp C mv_X6_fills lkX6_161 (ct_mfills (by decide) (xt_cl50 _) (by decide) (by decide) b2 hc5 (f := k) (fun j hj => by rw [e50]; exact hkk j hj) hw (by omega) hw0 hh0) rfl (by decide) (xt_cl49 _ _) rfl (by decide) rfl (Nat.le_of_ble_eq_true rfl) dX6_mask_74 (fun S9 hq9 => ?_)
            obtain ⟨g, rfl, hg⟩ := hq9
            rw [e50] at hg
            have hM2 : xt_Mp (xt_sA (xt_chg (xt_sN S 49 0 (nI 0)) kp) 50 g) c r sd lv bo := by
              unfold xt_Mp
              rw [xt_sA_s, hg.2 0 (by omega), hg.2 1 (by omega), hg.2 2 (by omega), hg.2 3 (by omega), hg.2 4 (by omega)]
              exact hM9
            have hk2 := xt_fl9_k (C := (xt_chg (xt_sN S 49 0 (nI 0)) kp)) hg
            refine xt_istore (lo' := [_, _, _, _, _, _, _]) C dX6_mask_77 (Nat.le_of_ble_eq_true rfl) rfl rfl ?_
            refine xt_iload C dX6_mask_79 rfl ?_
            refine xt_if_ge (tgt := 88) C dX6_mask_81 (by decide) (fun c81 => ?_) (fun c81 => ?_)
            · refine xt_aload_n C dX6_mask_88 rfl ?_
              refine xt_cV C mv_X6_masked lkX6_152 (ct_mmasked (by exact hM2) hk2) rfl (by decide) (xt_cl49 _ _) rfl (by decide) rfl (Nat.le_of_ble_eq_true rfl) dX6_mask_89 ?_
              exact xt_iret C dX6_mask_92 ⟨by decide, by decide⟩ ⟨rfl, g, rfl, hg⟩
            · exact absurd (xt_paint_n (by omega) (by omega)) c81
          · obtain rfl : m = 1 := by omega
            refine xt_iconst (v := nI 1) C dX6_mask_69 rfl ?_
            refine xt_goto (tgt := 74) C dX6_mask_70 (by decide) ?_
            refine xt_cVp C mv_X6_fills lkX6_161 (ct_mfills (by decide) (xt_cl50 _) (by decide) (by decide) b2 hc5 (f := k) (fun j hj => by rw [e50]; exact hkk j hj) hw (by omega) hw0 hh0) rfl (by decide) (xt_cl49 _ _) rfl (by decide) rfl (Nat.le_of_ble_eq_true rfl) dX6_mask_74 (fun S9 hq9 => ?_)
            obtain ⟨g, rfl, hg⟩ := hq9
            rw [e50] at hg
            have hM2 : xt_Mp (xt_sA (xt_chg (xt_sN S 49 0 (nI 0)) kp) 50 g) c r sd lv bo := by
              unfold xt_Mp
              rw [xt_sA_s, hg.2 0 (by omega), hg.2 1 (by omega), hg.2 2 (by omega), hg.2 3 (by omega), hg.2 4 (by omega)]
              exact hM9
            have hk2 := xt_fl9_k (C := (xt_chg (xt_sN S 49 0 (nI 0)) kp)) hg
            refine xt_istore (lo' := [_, _, _, _, _, _, _]) C dX6_mask_77 (Nat.le_of_ble_eq_true rfl) rfl rfl ?_
            refine xt_iload C dX6_mask_79 rfl ?_
            refine xt_if_ge (tgt := 88) C dX6_mask_81 (by decide) (fun c81 => ?_) (fun c81 => ?_)
            · refine xt_aload_n C dX6_mask_88 rfl ?_
              refine xt_cV C mv_X6_masked lkX6_152 (ct_mmasked (by exact hM2) hk2) rfl (by decide) (xt_cl49 _ _) rfl (by decide) rfl (Nat.le_of_ble_eq_true rfl) dX6_mask_89 ?_
              exact xt_iret C dX6_mask_92 ⟨by decide, by decide⟩ ⟨rfl, g, rfl, hg⟩
            · exact absurd (xt_paint_n (by omega) (by omega)) c81
        · exact absurd c38 (by omega)
    · exact absurd ⟨⟨lf + w - 1, by omega, rfl⟩, tp + h - 1, by omega, rfl⟩ c21
set_option maxRecDepth 20000 in
set_option maxHeartbeats 2000000 in
theorem ct_mmask_b1 {c r sd lv bo : Nat} (hM : xt_Mp S c r sd lv bo) {x1 y1 x2 y2 z : Int32} (hbad : ¬ (xt_pix c r x1 y1 ∧ xt_pix c r x2 y2)) : xt_Ct E l yX6_mask cX6_mask 7 (some Jvm.ClassFile.FieldType.int) 2 44 0 0 [.ref (E.1 49), .int x1, .int y1, .int x2, .int y2, .int z] S (xt_Ep (some (.int (nI 0))) (xt_mr S 1)) := by
  refine xt_body (by decide +kernel) (xt_all rfl) (Nat.le_of_ble_eq_true rfl) (fun cx C hl9 => ?_)
  show xt_X E cx _ 0 0 0 [some (.ref (E.1 49)), some (.int x1), some (.int y1), some (.int x2), some (.int y2), some (.int z), none] [] S
  have hM9 := hM
  obtain ⟨hc, hr, hs, hv, hb, b1, b2, b3, b4, b5, b6, b7⟩ := hM
  refine xt_aload_n C dX6_mask_0 rfl ?_
  refine xt_iconst (v := nI 0) C dX6_mask_1 rfl ?_
  refine xt_put (f := 0) C xt_u6 rfl (by decide) (xt_cl49 _ _) (by decide) tyX6 tyX6_ok nmX6 lkX6_74 rfl (tyX6_ok 0 (by decide)) rfl rfl (Nat.le_of_ble_eq_true rfl) rfl dX6_mask_2 ?_
  refine xt_aload_n C dX6_mask_5 rfl ?_
  refine xt_iload_n C dX6_mask_6 rfl ?_
  refine xt_iload_n C dX6_mask_7 rfl ?_
  refine xt_cV C mv_X6_isPixel lkX6_158 (ct_isPixel (by exact hM9)) rfl (by decide) (xt_cl49 _ _) rfl (by decide) rfl (Nat.le_of_ble_eq_true rfl) dX6_mask_8 ?_
  refine xt_if_eqB (tgt := 24) C dX6_mask_11 (by decide) (fun c11 => ?_) (fun c11 => ?_)
  · refine xt_aload_n C dX6_mask_24 rfl ?_
    refine xt_iconst (v := nI 1) C dX6_mask_25 rfl ?_
    refine xt_cV C mv_X6_raises lkX6_142 ct_mraises rfl (by decide) (xt_cl49 _ _) rfl (by decide) rfl (Nat.le_of_ble_eq_true rfl) dX6_mask_26 ?_
    exact xt_iret C dX6_mask_29 ⟨by decide, by decide⟩ ⟨rfl, xt_mr_x xt_mfr_rf⟩
  · refine xt_aload_n C dX6_mask_14 rfl ?_
    refine xt_iload_n C dX6_mask_15 rfl ?_
    refine xt_iload C dX6_mask_16 rfl ?_
    refine xt_cV C mv_X6_isPixel lkX6_158 (ct_isPixel (by exact hM9)) rfl (by decide) (xt_cl49 _ _) rfl (by decide) rfl (Nat.le_of_ble_eq_true rfl) dX6_mask_18 ?_
    refine xt_if_neB (tgt := 30) C dX6_mask_21 (by decide) (fun c21 => ?_) (fun c21 => ?_)
    · exact absurd ⟨c11, c21⟩ hbad
    · refine xt_aload_n C dX6_mask_24 rfl ?_
      refine xt_iconst (v := nI 1) C dX6_mask_25 rfl ?_
      refine xt_cV C mv_X6_raises lkX6_142 ct_mraises rfl (by decide) (xt_cl49 _ _) rfl (by decide) rfl (Nat.le_of_ble_eq_true rfl) dX6_mask_26 ?_
      exact xt_iret C dX6_mask_29 ⟨by decide, by decide⟩ ⟨rfl, xt_mr_x xt_mfr_rf⟩
set_option maxRecDepth 20000 in
set_option maxHeartbeats 2000000 in
theorem ct_mmask_b2 {c r sd lv bo : Nat} (hM : xt_Mp S c r sd lv bo) {x1 y1 x2 y2 z : Int32} (h1 : xt_pix c r x1 y1) (h2 : xt_pix c r x2 y2) (hbad : x2 < x1 ∨ ¬ y1 ≤ y2) : xt_Ct E l yX6_mask cX6_mask 7 (some Jvm.ClassFile.FieldType.int) 2 44 0 0 [.ref (E.1 49), .int x1, .int y1, .int x2, .int y2, .int z] S (xt_Ep (some (.int (nI 0))) (xt_mr S 2)) := by
  refine xt_body (by decide +kernel) (xt_all rfl) (Nat.le_of_ble_eq_true rfl) (fun cx C hl9 => ?_)
  show xt_X E cx _ 0 0 0 [some (.ref (E.1 49)), some (.int x1), some (.int y1), some (.int x2), some (.int y2), some (.int z), none] [] S
  have hM9 := hM
  obtain ⟨hc, hr, hs, hv, hb, b1, b2, b3, b4, b5, b6, b7⟩ := hM
  refine xt_aload_n C dX6_mask_0 rfl ?_
  refine xt_iconst (v := nI 0) C dX6_mask_1 rfl ?_
  refine xt_put (f := 0) C xt_u6 rfl (by decide) (xt_cl49 _ _) (by decide) tyX6 tyX6_ok nmX6 lkX6_74 rfl (tyX6_ok 0 (by decide)) rfl rfl (Nat.le_of_ble_eq_true rfl) rfl dX6_mask_2 ?_
  refine xt_aload_n C dX6_mask_5 rfl ?_
  refine xt_iload_n C dX6_mask_6 rfl ?_
  refine xt_iload_n C dX6_mask_7 rfl ?_
  refine xt_cV C mv_X6_isPixel lkX6_158 (ct_isPixel (by exact hM9)) rfl (by decide) (xt_cl49 _ _) rfl (by decide) rfl (Nat.le_of_ble_eq_true rfl) dX6_mask_8 ?_
  refine xt_if_eqB (tgt := 24) C dX6_mask_11 (by decide) (fun c11 => ?_) (fun c11 => ?_)
  · exact absurd h1 c11
  · refine xt_aload_n C dX6_mask_14 rfl ?_
    refine xt_iload_n C dX6_mask_15 rfl ?_
    refine xt_iload C dX6_mask_16 rfl ?_
    refine xt_cV C mv_X6_isPixel lkX6_158 (ct_isPixel (by exact hM9)) rfl (by decide) (xt_cl49 _ _) rfl (by decide) rfl (Nat.le_of_ble_eq_true rfl) dX6_mask_18 ?_
    refine xt_if_neB (tgt := 30) C dX6_mask_21 (by decide) (fun c21 => ?_) (fun c21 => ?_)
    · refine xt_iload_n C dX6_mask_30 rfl ?_
      refine xt_iload_n C dX6_mask_31 rfl ?_
      refine xt_icmp_gt (tgt := 41) C dX6_mask_32 (by decide) (fun c32 => ?_) (fun c32 => ?_)
      · refine xt_aload_n C dX6_mask_41 rfl ?_
        refine xt_iconst (v := nI 2) C dX6_mask_42 rfl ?_
        refine xt_cV C mv_X6_raises lkX6_142 ct_mraises rfl (by decide) (xt_cl49 _ _) rfl (by decide) rfl (Nat.le_of_ble_eq_true rfl) dX6_mask_43 ?_
        exact xt_iret C dX6_mask_46 ⟨by decide, by decide⟩ ⟨rfl, xt_mr_x xt_mfr_rf⟩
      · refine xt_iload_n C dX6_mask_35 rfl ?_
        refine xt_iload C dX6_mask_36 rfl ?_
        refine xt_icmp_le (tgt := 47) C dX6_mask_38 (by decide) (fun c38 => ?_) (fun c38 => ?_)
        · exact hbad.elim (fun q => absurd q c32) (fun q => absurd c38 q)
        · refine xt_aload_n C dX6_mask_41 rfl ?_
          refine xt_iconst (v := nI 2) C dX6_mask_42 rfl ?_
          refine xt_cV C mv_X6_raises lkX6_142 ct_mraises rfl (by decide) (xt_cl49 _ _) rfl (by decide) rfl (Nat.le_of_ble_eq_true rfl) dX6_mask_43 ?_
          exact xt_iret C dX6_mask_46 ⟨by decide, by decide⟩ ⟨rfl, xt_mr_x xt_mfr_rf⟩
    · exact absurd h2 c21
def xt_rc (wv : Nat) : Nat := if wv < 4 then 2 else if wv = 6 then 2 else 3
set_option maxRecDepth 20000 in
set_option maxHeartbeats 2000000 in
theorem ct_mrefuses {wv : Nat} (hw : wv ≤ 6) {z : Int32} : xt_Ct E l yX6_refuses cX6_refuses 3 (some Jvm.ClassFile.FieldType.int) 1 21 0 0 [.ref (E.1 49), .int (nI wv), .int z] S (xt_Eq (some (.int (nI 0))) (xt_sN (xt_sN (xt_sN S 49 11 (nI wv)) 49 12 z) 49 0 (nI (xt_rc wv)))) := by
  refine xt_body (by decide +kernel) (xt_all rfl) (Nat.le_of_ble_eq_true rfl) (fun cx C hl9 => ?_)
  show xt_X E cx _ 0 0 0 [some (.ref (E.1 49)), some (.int (nI wv)), some (.int z)] [] S
  refine xt_aload_n C dX6_refuses_0 rfl ?_
  refine xt_iload_n C dX6_refuses_1 rfl ?_
  refine xt_put (f := 11) C xt_u6 rfl (by decide) (xt_cl49 _ _) (by decide) tyX6 tyX6_ok nmX6 lkX6_172 rfl (tyX6_ok 11 (by decide)) rfl rfl (Nat.le_of_ble_eq_true rfl) rfl dX6_refuses_2 ?_
  refine xt_aload_n C dX6_refuses_5 rfl ?_
  refine xt_iload_n C dX6_refuses_6 rfl ?_
  refine xt_put (f := 12) C xt_u6 rfl (by decide) (xt_cl49 _ _) (by decide) tyX6 tyX6_ok nmX6 lkX6_175 rfl (tyX6_ok 12 (by decide)) rfl rfl (Nat.le_of_ble_eq_true rfl) rfl dX6_refuses_7 ?_
  refine xt_aload_n C dX6_refuses_10 rfl ?_
  refine xt_iload_n C dX6_refuses_11 rfl ?_
  refine xt_iconst (v := nI 4) C dX6_refuses_12 rfl ?_
  refine xt_icmp_geN (tgt := 20) C dX6_refuses_13 (by decide) (by omega) (by omega) (fun c13 => ?_) (fun c13 => ?_)
  · refine xt_iload_n C dX6_refuses_20 rfl ?_
    refine xt_bipush (v := nI 6) C dX6_refuses_21 (by decide) ?_
    refine xt_icmp_neN (tgt := 30) C dX6_refuses_23 (by decide) (by omega) (by omega) (fun c23 => ?_) (fun c23 => ?_)
    · refine xt_iconst (v := nI 3) C dX6_refuses_30 rfl ?_
      refine xt_cV C mv_X6_raises lkX6_142 ct_mraises rfl (by decide) (xt_cl49 _ _) rfl (by decide) rfl (Nat.le_of_ble_eq_true rfl) dX6_refuses_31 ?_
      refine xt_iret C dX6_refuses_34 ⟨by decide, by decide⟩ ?_
      refine ⟨rfl, ?_⟩
      unfold xt_rc
      first
      | rw [if_pos (by omega)]
      | rw [if_neg (by omega), if_pos (by omega)]
      | rw [if_neg (by omega), if_neg (by omega)]
    · refine xt_iconst (v := nI 2) C dX6_refuses_26 rfl ?_
      refine xt_goto (tgt := 31) C dX6_refuses_27 (by decide) ?_
      refine xt_cV C mv_X6_raises lkX6_142 ct_mraises rfl (by decide) (xt_cl49 _ _) rfl (by decide) rfl (Nat.le_of_ble_eq_true rfl) dX6_refuses_31 ?_
      refine xt_iret C dX6_refuses_34 ⟨by decide, by decide⟩ ?_
      refine ⟨rfl, ?_⟩
      unfold xt_rc
      first
      | rw [if_pos (by omega)]
      | rw [if_neg (by omega), if_pos (by omega)]
      | rw [if_neg (by omega), if_neg (by omega)]
  · refine xt_iconst (v := nI 2) C dX6_refuses_16 rfl ?_
    refine xt_goto (tgt := 31) C dX6_refuses_17 (by decide) ?_
    refine xt_cV C mv_X6_raises lkX6_142 ct_mraises rfl (by decide) (xt_cl49 _ _) rfl (by decide) rfl (Nat.le_of_ble_eq_true rfl) dX6_refuses_31 ?_
    refine xt_iret C dX6_refuses_34 ⟨by decide, by decide⟩ ?_
    refine ⟨rfl, ?_⟩
    unfold xt_rc
    first
    | rw [if_pos (by omega)]
    | rw [if_neg (by omega), if_pos (by omega)]
    | rw [if_neg (by omega), if_neg (by omega)]
end XM14
