/-! DOUBLES: the quotient of an int and a small positive one is no NaN -/
section XC32
theorem xt_fq : FP.Core.b64.tails = 4503599627370496 ∧ FP.Core.b64.exps = 2048 ∧ FP.Core.b64.qmin = -1074 ∧ FP.Core.b64.qmax = 971 ∧ 2 ^ FP.Core.b64.p = 9007199254740992 := by decide +kernel
theorem xt_fbd {s : Bool} {c : Nat} {q : Int} (hc : c < 9007199254740992) : FP.Core.encode FP.Core.b64 (FP.Core.bound FP.Core.b64 s c q) % 9223372036854775808 ≤ 9218868437227405312 := by
  obtain ⟨e1, e2, e3, e4, e5⟩ := xt_fq
  unfold FP.Core.bound
  by_cases h : q ≤ FP.Core.b64.qmax
  · rw [if_pos h]
    rw [e4] at h
    unfold FP.Core.encode FP.Core.assemble
    by_cases g : c < FP.Core.b64.tails
    · simp only [if_pos g]
      rw [e1] at g
      rw [e1, e2]
      cases s
      · simp; omega
      · simp; omega
    · simp only [if_neg g]
      rw [e1] at g
      rw [e1, e2, e3]
      have h9 : (q - -1074).toNat ≤ 2045 := by omega
      generalize (q - -1074).toNat = z at h9
      cases s
      · simp; omega
      · simp; omega
  · rw [if_neg h]
    unfold FP.Core.encode FP.Core.assemble
    simp only
    rw [e1, e2]
    cases s
    · simp
    · simp
theorem xt_fst {s : Bool} {c : Nat} {q : Int} : FP.Core.encode FP.Core.b64 (FP.Core.settle FP.Core.b64 s c q) % 9223372036854775808 ≤ 9218868437227405312 := by
  obtain ⟨e1, e2, e3, e4, e5⟩ := xt_fq
  unfold FP.Core.settle
  by_cases h : c < 2 ^ FP.Core.b64.p
  · rw [if_pos h]
    rw [e5] at h
    exact xt_fbd h
  · rw [if_neg h]
    exact xt_fbd (by rw [e1]; omega)
theorem xt_frr {s : Bool} {a b : Nat} {e : Int} : FP.Core.encode FP.Core.b64 (FP.Core.roundRatio FP.Core.b64 s a b e) % 9223372036854775808 ≤ 9218868437227405312 := by
  unfold FP.Core.roundRatio
  by_cases h : a = 0
  · rw [if_pos h]
    have h9 := xt_fbd (s := s) (c := 0) (q := FP.Core.b64.qmin) (by omega)
    unfold FP.Core.bound at h9
    rw [if_pos (by decide)] at h9
    exact h9
  · rw [if_neg h]
    exact xt_fst
theorem xt_fnn {n : Nat} (h : n % 9223372036854775808 ≤ 9218868437227405312) : FP.Core.decode FP.Core.b64 n ≠ .nan := by
  obtain ⟨e1, e2, e3, e4, e5⟩ := xt_fq
  unfold FP.Core.decode FP.Core.fieldE FP.Core.fieldT
  rw [e1, e2]
  intro z
  by_cases g : n / 4503599627370496 % 2048 = 2048 - 1
  · rw [if_pos g, if_pos (by omega)] at z
    cases z
  · rw [if_neg g] at z
    split at z <;> cases z
theorem xt_fi2d (x : Int32) : FP.Core.decode FP.Core.b64 (FP.i2d x).toNat ≠ .nan := by
  refine xt_fnn ?_
  show (UInt64.ofNat (FP.Core.fromInt FP.Core.b64 x.toInt)).toNat % _ ≤ _
  rw [UInt64.toNat_ofNat']
  have h9 := xt_frr (s := decide (x.toInt < 0)) (a := x.toInt.natAbs) (b := 1) (e := 0)
  have e9 : FP.Core.fromInt FP.Core.b64 x.toInt = FP.Core.encode FP.Core.b64 (FP.Core.roundRatio FP.Core.b64 (decide (x.toInt < 0)) x.toInt.natAbs 1 0) := rfl
  rw [e9]
  generalize FP.Core.encode FP.Core.b64 (FP.Core.roundRatio FP.Core.b64 (decide (x.toInt < 0)) x.toInt.natAbs 1 0) = z at h9 ⊢
  omega
def xt_fzr : FP.Core.Datum → Bool
  | .fin _ d _ => d != 0
  | _ => false
theorem xt_fpx {n : Nat} (h0 : 0 < n) (h : n ≤ 256) : xt_fzr (FP.Core.decode FP.Core.b64 (FP.i2d (nI n)).toNat) = true := by
  have h9 := co_dec (N := 257) (P := fun n => (n == 0 || xt_fzr (FP.Core.decode FP.Core.b64 (FP.i2d (nI n)).toNat)) = true) (by decide +kernel) (show n < 257 by omega)
  simp only [Bool.or_eq_true, beq_iff_eq] at h9
  rcases h9 with h9 | h9
  · omega
  · exact h9
theorem xt_fqt {a b : FP.Core.Datum} (ha : a ≠ .nan) (hb : xt_fzr b = true) : FP.Core.encode FP.Core.b64 (FP.Core.quotient FP.Core.b64 a b) % 9223372036854775808 ≤ 9218868437227405312 := by
  obtain ⟨e1, e2, e3, e4, e5⟩ := xt_fq
  cases b with
  | nan => cases hb
  | inf t => cases hb
  | fin t d r =>
    have hd : d ≠ 0 := by simpa [xt_fzr] using hb
    cases a with
    | nan => exact absurd rfl ha
    | inf s =>
      show FP.Core.encode FP.Core.b64 (.inf (s != t)) % _ ≤ _
      unfold FP.Core.encode FP.Core.assemble
      simp only
      rw [e1, e2]
      generalize (s != t) = u
      cases u
      · simp
      · simp
    | fin s c q =>
      show FP.Core.encode FP.Core.b64 (if d = 0 then (if c = 0 then .nan else .inf (s != t)) else FP.Core.roundRatio FP.Core.b64 (s != t) c d (q - r)) % _ ≤ _
      rw [if_neg hd]
      exact xt_frr
theorem xt_fdm {a : Int32} {n : Nat} (h0 : 0 < n) (h : n ≤ 256) : (FP.ddiv (FP.i2d a) (FP.i2d (nI n))).toNat % 9223372036854775808 ≤ 9218868437227405312 := by
  show (UInt64.ofNat (FP.Core.div FP.Core.b64 (FP.i2d a).toNat (FP.i2d (nI n)).toNat)).toNat % _ ≤ _
  rw [UInt64.toNat_ofNat']
  have h9 := xt_fqt (xt_fi2d a) (xt_fpx h0 h)
  have e9 : FP.Core.div FP.Core.b64 (FP.i2d a).toNat (FP.i2d (nI n)).toNat = FP.Core.encode FP.Core.b64 (FP.Core.quotient FP.Core.b64 (FP.Core.decode FP.Core.b64 (FP.i2d a).toNat) (FP.Core.decode FP.Core.b64 (FP.i2d (nI n)).toNat)) := rfl
  rw [e9]
  generalize FP.Core.encode FP.Core.b64 (FP.Core.quotient FP.Core.b64 (FP.Core.decode FP.Core.b64 (FP.i2d a).toNat) (FP.Core.decode FP.Core.b64 (FP.i2d (nI n)).toNat)) = z at h9 ⊢
  omega
theorem xt_fn64 {a : Int32} {n : Nat} (h0 : 0 < n) (h : n ≤ 256) : vf_n64 (FP.ddiv (FP.i2d a) (FP.i2d (nI n))) := by
  have h9 := xt_fdm (a := a) h0 h
  unfold vf_n64
  rw [UInt64.le_iff_toNat_le, UInt64.toNat_and]
  show _ &&& (2 ^ 63 - 1) ≤ _
  rw [Nat.and_two_pow_sub_one_eq_mod]
  exact h9
/-- compared with itself it is equal -/
theorem xt_fself {a : Int32} {n : Nat} (h0 : 0 < n) (h : n ≤ 256) : FP.dcmp (FP.ddiv (FP.i2d a) (FP.i2d (nI n))) (FP.ddiv (FP.i2d a) (FP.i2d (nI n))) = some .eq := by
  have h9 := xt_fnn (xt_fdm (a := a) h0 h)
  show FP.Core.order (FP.Core.decode FP.Core.b64 _) (FP.Core.decode FP.Core.b64 _) = some .eq
  generalize FP.Core.decode FP.Core.b64 (FP.ddiv (FP.i2d a) (FP.i2d (nI n))).toNat = d at h9 ⊢
  cases d with
  | nan => exact absurd rfl h9
  | inf s => cases s <;> decide
  | fin s c q => simp [FP.Core.order]
end XC32
