/-! Doubles and floats: what is no NaN. -/
section ZFP
theorem nn64 {r : UInt64} (h : FP.Core.val64 r ≠ .nan) : vf_n64 r := by
  unfold vf_n64
  rw [UInt64.le_iff_toNat_le, UInt64.toNat_and]
  show r.toNat &&& 9223372036854775807 ≤ 9218868437227405312
  rw [show (9223372036854775807 : Nat) = 2 ^ 63 - 1 from rfl, Nat.and_two_pow_sub_one_eq_mod]
  have hr := r.toNat_lt
  apply Nat.not_lt.mp
  intro q
  apply h
  show FP.Core.decode FP.Core.b64 r.toNat = .nan
  have e1 : FP.Core.fieldE FP.Core.b64 r.toNat = r.toNat / 4503599627370496 % 2048 := rfl
  have e2 : FP.Core.fieldT FP.Core.b64 r.toNat = r.toNat % 4503599627370496 := rfl
  unfold FP.Core.decode
  rw [if_pos (by rw [e1, show FP.Core.b64.exps = 2048 from rfl]; omega), if_neg (by rw [e2]; omega)]
theorem nn32 {r : UInt32} (h : FP.Core.val32 r ≠ .nan) : vf_n32 r := by
  unfold vf_n32
  rw [UInt32.le_iff_toNat_le, UInt32.toNat_and]
  show r.toNat &&& 2147483647 ≤ 2139095040
  rw [show (2147483647 : Nat) = 2 ^ 31 - 1 from rfl, Nat.and_two_pow_sub_one_eq_mod]
  have hr := r.toNat_lt
  apply Nat.not_lt.mp
  intro q
  apply h
  show FP.Core.decode FP.Core.b32 r.toNat = .nan
  have e1 : FP.Core.fieldE FP.Core.b32 r.toNat = r.toNat / 8388608 % 256 := rfl
  have e2 : FP.Core.fieldT FP.Core.b32 r.toNat = r.toNat % 8388608 := rfl
  unfold FP.Core.decode
  rw [if_pos (by rw [e1, show FP.Core.b32.exps = 256 from rfl]; omega), if_neg (by rw [e2]; omega)]
theorem rr_nn (f : FP.Core.Fmt) (s : Bool) (n d : Nat) (e : Int) : FP.Core.roundRatio f s n d e ≠ .nan := by
  unfold FP.Core.roundRatio
  split
  · intro q; cases q
  · unfold FP.Core.roundAt FP.Core.settle FP.Core.bound
    repeat' split
    all_goals (intro q; cases q)
theorem rd_nn {f : FP.Core.Fmt} {d : FP.Core.Datum} (h : d ≠ .nan) : FP.Core.round f d ≠ .nan := by
  cases d with
  | nan => exact absurd rfl h
  | inf s => intro q; cases q
  | fin s c q => exact rr_nn f s c 1 q
theorem qu_nn {f : FP.Core.Fmt} {x : FP.Core.Datum} {t : Bool} {d : Nat} {r : Int} (h : x ≠ .nan) (hd : d ≠ 0) : FP.Core.quotient f x (.fin t d r) ≠ .nan := by
  cases x with
  | nan => exact absurd rfl h
  | inf s => intro q; cases q
  | fin s c q =>
    show (if d = 0 then _ else _) ≠ FP.Core.Datum.nan
    rw [if_neg hd]
    exact rr_nn f _ c d _
theorem oi_nn (f : FP.Core.Fmt) (i : Int) : FP.Core.round f (FP.Core.ofInt i) ≠ .nan := rd_nn (fun q => by cases q)
theorem coarse_v (x : Int32) : FP.Core.val64 (FP.ddiv (FP.i2d x) 4652218415073722368) ≠ .nan := by
  rw [show FP.ddiv (FP.i2d x) 4652218415073722368 = FP.Core.ddiv (FP.Core.i2d x) 4652218415073722368 from rfl, FP.Core.val64_ddiv, FP.Core.val64_i2d, show FP.Core.val64 4652218415073722368 = .fin false 4503599627370496 (-42) by decide +kernel]
  exact qu_nn (oi_nn _ _) (by decide)
theorem nn_coarse (x : Int32) : vf_n64 (FP.ddiv (FP.i2d x) 4652218415073722368) := nn64 (coarse_v x)
theorem i2f_v {h : Nat} (h0 : 0 < h) (h1 : h < 16777216) : ∃ c q, FP.Core.val32 (FP.i2f (nI h)) = .fin false c q ∧ c ≠ 0 := by
  have hl : h.log2 ≤ 23 := by
    have := (Nat.log2_lt (by omega : h ≠ 0) (k := 24)).mpr h1
    omega
  have h2 : 2 ^ h.log2 ≤ h := Nat.log2_self_le (by omega)
  have h3 : h < 2 ^ (h.log2 + 1) := Nat.lt_log2_self
  have e1 : 2 ^ h.log2 * 2 ^ (23 - h.log2) = 8388608 := by rw [← Nat.pow_add, show h.log2 + (23 - h.log2) = 23 by omega]
  have e2 : 2 ^ (h.log2 + 1) * 2 ^ (23 - h.log2) = 16777216 := by rw [← Nat.pow_add, show h.log2 + 1 + (23 - h.log2) = 24 by omega]
  have p1 : 0 < 2 ^ (23 - h.log2) := Nat.pow_pos (by decide)
  have m1 : 8388608 ≤ h * 2 ^ (23 - h.log2) := by rw [← e1]; exact Nat.mul_le_mul_right _ h2
  have m2 : h * 2 ^ (23 - h.log2) < 16777216 := by rw [← e2]; exact Nat.mul_lt_mul_of_pos_right h3 p1
  refine ⟨h * 2 ^ (23 - h.log2), (h.log2 : Int) - 23, ?_, by omega⟩
  rw [show FP.i2f (nI h) = FP.Core.i2f (nI h) from rfl, FP.Core.val32_i2f, nI_toInt (by omega)]
  show FP.Core.roundRatio FP.Core.b32 (decide ((h : Int) < 0)) (h : Int).natAbs 1 0 = _
  rw [decide_eq_false (by omega), show (h : Int).natAbs = h from rfl]
  refine FP.Core.roundRatio_exact FP.Core.good_b32 (by decide) ⟨by show _ < 16777216; exact m2, by show (-149 : Int) ≤ _; omega, by show _ ≤ (104 : Int); omega, Or.inr (by show 8388608 ≤ _; exact m1)⟩ ?_
  rw [show ((0 : Int) - ((h.log2 : Int) - 23)).toNat = 23 - h.log2 by omega, show ((h.log2 : Int) - 23 - 0).toNat = 0 by omega]
  omega
theorem share_v {a h : Nat} (h0 : 0 < h) (h1 : h < 16777216) : FP.Core.val32 (FP.fdiv (FP.i2f (nI a)) (FP.i2f (nI h))) ≠ .nan := by
  obtain ⟨c, q, e, hc⟩ := i2f_v h0 h1
  rw [show FP.fdiv (FP.i2f (nI a)) (FP.i2f (nI h)) = FP.Core.fdiv (FP.i2f (nI a)) (FP.i2f (nI h)) from rfl, FP.Core.val32_fdiv, e, show FP.i2f (nI a) = FP.Core.i2f (nI a) from rfl, FP.Core.val32_i2f]
  exact qu_nn (oi_nn _ _) hc
theorem nn_share {a h : Nat} (h0 : 0 < h) (h1 : h < 16777216) : vf_n32 (FP.fdiv (FP.i2f (nI a)) (FP.i2f (nI h))) := nn32 (share_v h0 h1)
/-- a float made a double, and a double held against itself -/
theorem f2d_v {x : UInt32} (h : FP.Core.val32 x ≠ .nan) : FP.Core.val64 (FP.f2d x) ≠ .nan := by
  have h1 : FP.f2d x = FP.Core.f2d x := if_neg (by
    show ¬ decide (FP.Core.decode FP.Core.b32 x.toNat = .nan) = true
    rw [decide_eq_true_eq]
    exact h)
  rw [h1, FP.Core.val64_f2d]
  exact rd_nn h
theorem icmp_self (a : Int) : compare a a = .eq := by simp [compare, compareOfLessAndEq, Int.lt_irrefl]
theorem dcmp_self {x : UInt64} (h : FP.Core.val64 x ≠ .nan) : FP.dcmp x x = some .eq := by
  show FP.Core.order (FP.Core.val64 x) (FP.Core.val64 x) = _
  cases hv : FP.Core.val64 x with
  | nan => exact absurd hv h
  | inf s => show some (compare (FP.Core.signed s 1) _) = _; rw [icmp_self]
  | fin s c q => show some (compare (FP.Core.signed s _) _) = _; rw [icmp_self]
theorem fc0_v : FP.Core.val32 FP.fconst0 ≠ .nan := by decide +kernel
end ZFP
