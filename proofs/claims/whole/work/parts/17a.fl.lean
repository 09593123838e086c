/-! Doubles by their bits, in whole numbers: what a rounded sum, product and quotient of numbers above 0 is. -/
def fl_m (n : Nat) : Nat := n % 4503599627370496 + 4503599627370496
def fl_e (n : Nat) : Nat := n / 4503599627370496
def fl_nr (N D : Nat) : Nat := (2 * N + (D - 1) + N / D % 2) / (2 * D)
/-- p times 2 to the power e - 1075, rounded -/
def fl_fin (p e : Nat) : Nat := if 52 ≤ p.log2 then fl_nr p (2 ^ (p.log2 - 52)) + (e + p.log2 - 52) * 4503599627370496 - 4503599627370496 else p * 2 ^ (52 - p.log2) + (e + p.log2 - 52) * 4503599627370496 - 4503599627370496
def fl_mul (a b : Nat) : Nat := fl_fin (fl_m a * fl_m b) (fl_e a + fl_e b - 1075)
def fl_add (a b : Nat) : Nat := fl_fin (fl_m a * 2 ^ (fl_e a - fl_e b) + fl_m b) (fl_e b)
def fl_sub (a b : Nat) : Nat := fl_fin (fl_m a * 2 ^ (fl_e a - fl_e b) - fl_m b) (fl_e b)
def fl_div (a b : Nat) : Nat := if fl_m a < fl_m b then fl_nr (fl_m a * 9007199254740992) (fl_m b) + (fl_e a + 1022 - fl_e b) * 4503599627370496 - 4503599627370496 else fl_nr (fl_m a * 4503599627370496) (fl_m b) + (fl_e a + 1023 - fl_e b) * 4503599627370496 - 4503599627370496
theorem fl_near {N D : Nat} (h : 0 < D) : Jvm.FP.Core.nearest N D = fl_nr N D := by
  unfold Jvm.FP.Core.nearest fl_nr
  have h1 : D * (N / D) + N % D = N := Nat.div_add_mod N D
  have h2 := Nat.mod_lt N h
  have h3 : 2 * N + (D - 1) + N / D % 2 = (2 * (N % D) + (D - 1) + N / D % 2) + 2 * D * (N / D) := by
    rw [Nat.mul_assoc]; omega
  rw [h3, Nat.add_mul_div_left _ _ (by omega)]
  have h4 : N / D % 2 = 0 ∨ N / D % 2 = 1 := by omega
  generalize N / D = k at *
  generalize N % D = r at *
  split
  · rename_i q
    rw [Nat.div_eq_of_lt (by omega)]; omega
  · split
    · rename_i q
      rw [show (2 * r + (D - 1) + k % 2) / (2 * D) = 1 from (Nat.div_eq_iff (by omega)).mpr (by omega)]; omega
    · rcases h4 with h4 | h4
      · rw [h4, Nat.div_eq_of_lt (by omega)]; omega
      · rw [h4, show (2 * r + (D - 1) + 1) / (2 * D) = 1 from (Nat.div_eq_iff (by omega)).mpr (by omega)]; omega
def fl_sg (s : Bool) (n : Nat) : UInt64 := .ofNat (s.toNat * 9223372036854775808 + n)
theorem fl_sgN (s : Bool) {n : Nat} (h : n < 9223372036854775808) : (fl_sg s n).toNat = s.toNat * 9223372036854775808 + n := by
  unfold fl_sg
  exact UInt64.toNat_ofNat_of_lt' (by cases s <;> simp [UInt64.size] <;> omega)
theorem fl_t : Jvm.FP.Core.b64.tails = 4503599627370496 := rfl
theorem fl_x2 : Jvm.FP.Core.b64.exps = 2048 := rfl
theorem fl_qmin : Jvm.FP.Core.b64.qmin = -1074 := rfl
theorem fl_qmax : Jvm.FP.Core.b64.qmax = 971 := rfl
theorem fl_p : Jvm.FP.Core.b64.p = 53 := rfl
theorem fl_val (s : Bool) {n : Nat} (h1 : 4503599627370496 ≤ n) (h2 : n < 9218868437227405312) : Jvm.FP.Core.val64 (fl_sg s n) = .fin s (fl_m n) ((fl_e n : Int) - 1075) := by
  unfold Jvm.FP.Core.val64 Jvm.FP.Core.decode Jvm.FP.Core.fieldE Jvm.FP.Core.fieldT Jvm.FP.Core.fieldS
  rw [fl_sgN s (by omega), fl_t, fl_x2, fl_qmin]
  have h3 : (s.toNat * 9223372036854775808 + n) / 4503599627370496 = s.toNat * 2048 + n / 4503599627370496 := by cases s <;> simp <;> omega
  have h4 : (s.toNat * 9223372036854775808 + n) % 4503599627370496 = n % 4503599627370496 := by cases s <;> simp <;> omega
  have h5 : (s.toNat * 2048 + n / 4503599627370496) % 2048 = n / 4503599627370496 := by cases s <;> simp <;> omega
  have h6 : ((s.toNat * 2048 + n / 4503599627370496) / 2048 % 2 == 1) = s := by
    have : (s.toNat * 2048 + n / 4503599627370496) / 2048 = s.toNat := by cases s <;> simp <;> omega
    rw [this]; cases s <;> rfl
  rw [h3, h4, h5, h6, if_neg (by omega), if_neg (by omega)]
  unfold fl_m fl_e
  rw [Nat.add_comm 4503599627370496]
  congr 1
  omega
theorem fl_enc (s : Bool) {c E : Nat} (hE : 1 ≤ E) (hc : 4503599627370496 ≤ c) : Jvm.FP.Core.encode Jvm.FP.Core.b64 (.fin s c ((E : Int) - 1075)) = s.toNat * 9223372036854775808 + (c + E * 4503599627370496 - 4503599627370496) := by
  show (if c < Jvm.FP.Core.b64.tails then _ else Jvm.FP.Core.assemble Jvm.FP.Core.b64 s (((E : Int) - 1075 - Jvm.FP.Core.b64.qmin).toNat + 1) (c - Jvm.FP.Core.b64.tails)) = _
  rw [fl_t, fl_qmin, if_neg (by omega), show ((E : Int) - 1075 - -1074).toNat + 1 = E by omega]
  unfold Jvm.FP.Core.assemble
  rw [fl_t, fl_x2]
  cases s <;> simp <;> omega
theorem fl_rr (s : Bool) {A B : Nat} {e : Int} {E N D : Nat} (hA : 0 < A) (hB : 0 < B) (hE : 1 ≤ E) (hE2 : E ≤ 2045) (hN : Jvm.FP.Core.unitsNum A e ((E : Int) - 1075) = N) (hD : Jvm.FP.Core.unitsDen B e ((E : Int) - 1075) = D) (h1 : 4503599627370496 * D ≤ N) (h2 : N < 9007199254740992 * D) :
    Jvm.FP.Core.encode Jvm.FP.Core.b64 (Jvm.FP.Core.roundRatio Jvm.FP.Core.b64 s A B e) = s.toNat * 9223372036854775808 + (fl_nr N D + E * 4503599627370496 - 4503599627370496) := by
  have hD0 : 0 < D := by rw [← hD]; exact Jvm.FP.Core.unitsDen_pos hB _ _
  have hq : Jvm.FP.Core.quantum Jvm.FP.Core.b64 A B e = (E : Int) - 1075 := by
    refine Jvm.FP.Core.quantum_eq hA hB (by rw [fl_qmin]; omega) ?_ (Or.inr ?_)
    · rw [fl_p, ← Jvm.FP.Core.units_below, hN, hD]; exact h2
    · rw [fl_p, show ((53 : Nat) : Int) - 1 = ((52 : Nat) : Int) from rfl, ← Jvm.FP.Core.units_below, hN, hD]; exact Nat.not_lt.mpr h1
  have g1 : 4503599627370496 ≤ Jvm.FP.Core.nearest N D := Jvm.FP.Core.nearest_ge hD0 h1
  have g2 : Jvm.FP.Core.nearest N D ≤ 9007199254740992 := Jvm.FP.Core.nearest_le hD0 (Nat.le_of_lt h2)
  unfold Jvm.FP.Core.roundRatio
  rw [if_neg (by omega), hq]
  unfold Jvm.FP.Core.roundAt
  rw [hN, hD, ← fl_near hD0]
  unfold Jvm.FP.Core.settle Jvm.FP.Core.bound
  rw [fl_p, fl_qmax]
  split
  · rw [if_pos (by omega), fl_enc s hE g1]
  · rename_i g3
    rw [if_pos (by omega), show (E : Int) - 1075 + 1 = ((E + 1 : Nat) : Int) - 1075 by omega, fl_enc s (by omega) (by rw [fl_t]; omega), fl_t]
    have g4 : Jvm.FP.Core.nearest N D = 9007199254740992 := by
      have : ¬ Jvm.FP.Core.nearest N D < 9007199254740992 := g3
      omega
    rw [g4]
    omega
theorem fl_nr1 (N : Nat) : fl_nr N 1 = N := by
  unfold fl_nr
  rw [Nat.div_one]
  omega
theorem fl_finR (s : Bool) {p e : Nat} {e1 : Int} (he : e1 = (e : Int) - 1075) (hp : 0 < p) (hE : 53 ≤ e + p.log2) (hE2 : e + p.log2 ≤ 2097) : Jvm.FP.Core.encode Jvm.FP.Core.b64 (Jvm.FP.Core.roundRatio Jvm.FP.Core.b64 s p 1 e1) = s.toNat * 9223372036854775808 + fl_fin p e := by
  subst he
  have a1 : 2 ^ p.log2 ≤ p := Nat.log2_self_le (by omega)
  have a2 : p < 2 ^ (p.log2 + 1) := Nat.lt_log2_self
  unfold fl_fin
  by_cases h : 52 ≤ p.log2
  · rw [if_pos h]
    have a3 : 2 ^ p.log2 = 4503599627370496 * 2 ^ (p.log2 - 52) := by
      rw [show (4503599627370496 : Nat) = 2 ^ 52 from rfl, ← Nat.pow_add]
      congr 1; omega
    have a4 : 2 ^ (p.log2 + 1) = 9007199254740992 * 2 ^ (p.log2 - 52) := by rw [Nat.pow_succ, a3]; omega
    refine fl_rr s (E := e + p.log2 - 52) (N := p) (D := 2 ^ (p.log2 - 52)) hp (by decide) (by omega) (by omega) ?_ ?_ (by omega) (by omega)
    · unfold Jvm.FP.Core.unitsNum
      rw [show ((e : Int) - 1075 - (((e + p.log2 - 52 : Nat) : Int) - 1075)).toNat = 0 by omega, Nat.pow_zero, Nat.mul_one]
    · unfold Jvm.FP.Core.unitsDen
      rw [show (((e + p.log2 - 52 : Nat) : Int) - 1075 - ((e : Int) - 1075)).toNat = p.log2 - 52 by omega, Nat.one_mul]
  · rw [if_neg h]
    have a3 : 2 ^ p.log2 * 2 ^ (52 - p.log2) = 4503599627370496 := by
      rw [← Nat.pow_add, show p.log2 + (52 - p.log2) = 52 by omega]
    have a4 : p * 2 ^ (52 - p.log2) < 9007199254740992 := by
      have := Nat.mul_lt_mul_of_pos_right a2 (Nat.two_pow_pos (52 - p.log2))
      rw [Nat.pow_succ, Nat.mul_right_comm, a3] at this
      exact this
    have a5 : 4503599627370496 ≤ p * 2 ^ (52 - p.log2) := by
      have := Nat.mul_le_mul_right (2 ^ (52 - p.log2)) a1
      rw [a3] at this
      exact this
    have := fl_rr s (A := p) (B := 1) (e := (e : Int) - 1075) (E := e + p.log2 - 52) (N := p * 2 ^ (52 - p.log2)) (D := 1) hp (by decide) (by omega) (by omega) ?_ ?_ (by omega) (by omega)
    · rw [this, fl_nr1]
    · unfold Jvm.FP.Core.unitsNum
      rw [show ((e : Int) - 1075 - (((e + p.log2 - 52 : Nat) : Int) - 1075)).toNat = 52 - p.log2 by omega]
    · unfold Jvm.FP.Core.unitsDen
      rw [show (((e + p.log2 - 52 : Nat) : Int) - 1075 - ((e : Int) - 1075)).toNat = 0 by omega, Nat.pow_zero]
/-- between 2 to the power -123 and 2 to the power 127 -/
def fl_ok (n : Nat) : Prop := 4053239664633446400 ≤ n ∧ n < 5179139571476070400
theorem fl_okv (s : Bool) {n : Nat} (h : fl_ok n) : Jvm.FP.Core.val64 (fl_sg s n) = .fin s (fl_m n) ((fl_e n : Int) - 1075) := fl_val s (by have := h.1; omega) (by have := h.2; omega)
theorem fl_oke {n : Nat} (h : fl_ok n) : 900 ≤ fl_e n ∧ fl_e n < 1150 := by
  unfold fl_e; have := h.1; have := h.2; omega
theorem fl_mb (n : Nat) : 4503599627370496 ≤ fl_m n ∧ fl_m n < 9007199254740992 := by unfold fl_m; omega
theorem fl_log {p k : Nat} (h : 0 < p) (h2 : p < 2 ^ (k + 1)) : p.log2 ≤ k := by
  have := (Nat.log2_lt (by omega)).mpr h2
  omega
theorem fl_round (f : Jvm.FP.Core.Fmt) (s : Bool) (c : Nat) (q : Int) : Jvm.FP.Core.round f (.fin s c q) = Jvm.FP.Core.roundRatio f s c 1 q := rfl
theorem fl_rz (f : Jvm.FP.Core.Fmt) (s : Bool) (B : Nat) (q : Int) : Jvm.FP.Core.roundRatio f s 0 B q = .fin s 0 f.qmin := by
  unfold Jvm.FP.Core.roundRatio
  rw [if_pos rfl]
theorem fl_prod (s t : Bool) (c d : Nat) (q r : Int) : Jvm.FP.Core.exactProduct (.fin s c q) (.fin t d r) = .fin (s != t) (c * d) (q + r) := rfl
theorem fl_quot (f : Jvm.FP.Core.Fmt) (s t : Bool) (c d : Nat) (q r : Int) (h : ¬ d = 0) : Jvm.FP.Core.quotient f (.fin s c q) (.fin t d r) = Jvm.FP.Core.roundRatio f (s != t) c d (q - r) := by
  show (if d = 0 then (if c = 0 then Jvm.FP.Core.Datum.nan else Jvm.FP.Core.Datum.inf (s != t)) else Jvm.FP.Core.roundRatio f (s != t) c d (q - r)) = _
  rw [if_neg h]
theorem fl_dm (x y : UInt64) : FP.dmul x y = UInt64.ofNat (Jvm.FP.Core.encode Jvm.FP.Core.b64 (Jvm.FP.Core.round Jvm.FP.Core.b64 (Jvm.FP.Core.exactProduct (Jvm.FP.Core.val64 x) (Jvm.FP.Core.val64 y)))) := rfl
theorem fl_dd (x y : UInt64) : FP.ddiv x y = UInt64.ofNat (Jvm.FP.Core.encode Jvm.FP.Core.b64 (Jvm.FP.Core.quotient Jvm.FP.Core.b64 (Jvm.FP.Core.val64 x) (Jvm.FP.Core.val64 y))) := rfl
theorem fl_da (x y : UInt64) : FP.dadd x y = UInt64.ofNat (Jvm.FP.Core.encode Jvm.FP.Core.b64 (Jvm.FP.Core.round Jvm.FP.Core.b64 (Jvm.FP.Core.exactSum (Jvm.FP.Core.val64 x) (Jvm.FP.Core.val64 y)))) := rfl
theorem fl_dmul (s t : Bool) {a b : Nat} (ha : fl_ok a) (hb : fl_ok b) : FP.dmul (fl_sg s a) (fl_sg t b) = fl_sg (s != t) (fl_mul a b) := by
  have h1 := fl_oke ha
  have h2 := fl_oke hb
  have m1 := fl_mb a
  have m2 := fl_mb b
  have hp : 0 < fl_m a * fl_m b := Nat.mul_pos (by omega) (by omega)
  have hl : (fl_m a * fl_m b).log2 ≤ 105 := fl_log hp (Nat.lt_of_lt_of_le (Nat.mul_lt_mul_of_lt_of_lt m1.2 m2.2) (Nat.le_of_ble_eq_true rfl))
  rw [fl_dm, fl_okv s ha, fl_okv t hb, fl_prod, fl_round, fl_finR (s != t) (e := fl_e a + fl_e b - 1075) (by omega) hp (by omega) (by omega)]
  rfl
theorem fl_ddiv (s t : Bool) {a b : Nat} (ha : fl_ok a) (hb : fl_ok b) : FP.ddiv (fl_sg s a) (fl_sg t b) = fl_sg (s != t) (fl_div a b) := by
  have h1 := fl_oke ha
  have h2 := fl_oke hb
  have m1 := fl_mb a
  have m2 := fl_mb b
  rw [fl_dd, fl_okv s ha, fl_okv t hb, fl_quot _ _ _ _ _ _ _ (by omega)]
  unfold fl_sg fl_div
  split
  · rename_i h
    rw [fl_rr (s != t) (E := fl_e a + 1022 - fl_e b) (N := fl_m a * 9007199254740992) (D := fl_m b) (by omega) (by omega) (by omega) (by omega) ?_ ?_ (by omega) (by omega)]
    · unfold Jvm.FP.Core.unitsNum
      rw [show ((fl_e a : Int) - 1075 - ((fl_e b : Int) - 1075) - (((fl_e a + 1022 - fl_e b : Nat) : Int) - 1075)).toNat = 53 by omega]
    · unfold Jvm.FP.Core.unitsDen
      rw [show ((((fl_e a + 1022 - fl_e b : Nat) : Int) - 1075) - ((fl_e a : Int) - 1075 - ((fl_e b : Int) - 1075))).toNat = 0 by omega, Nat.pow_zero, Nat.mul_one]
  · rename_i h
    rw [fl_rr (s != t) (E := fl_e a + 1023 - fl_e b) (N := fl_m a * 4503599627370496) (D := fl_m b) (by omega) (by omega) (by omega) (by omega) ?_ ?_ (by omega) (by omega)]
    · unfold Jvm.FP.Core.unitsNum
      rw [show ((fl_e a : Int) - 1075 - ((fl_e b : Int) - 1075) - (((fl_e a + 1023 - fl_e b : Nat) : Int) - 1075)).toNat = 52 by omega]
    · unfold Jvm.FP.Core.unitsDen
      rw [show ((((fl_e a + 1023 - fl_e b : Nat) : Int) - 1075) - ((fl_e a : Int) - 1075 - ((fl_e b : Int) - 1075))).toNat = 0 by omega, Nat.pow_zero, Nat.mul_one]
theorem fl_sl {a b : Nat} (hd : fl_e b ≤ fl_e a) : 0 < fl_m a * 2 ^ (fl_e a - fl_e b) ∧ fl_m a * 2 ^ (fl_e a - fl_e b) < 2 ^ (fl_e a - fl_e b + 53) ∧ 9007199254740992 ≤ 2 ^ (fl_e a - fl_e b + 53) := by
  have m1 := fl_mb a
  have w : 0 < 2 ^ (fl_e a - fl_e b) := Nat.two_pow_pos _
  have h1 : 2 ^ (fl_e a - fl_e b + 53) = 9007199254740992 * 2 ^ (fl_e a - fl_e b) := by rw [Nat.pow_add, Nat.mul_comm]
  rw [h1]
  exact ⟨Nat.mul_pos (by omega) w, Nat.mul_lt_mul_of_pos_right m1.2 w, Nat.le_mul_of_pos_right _ w⟩
theorem fl_un (s t : Bool) {a b : Nat} (hd : fl_e b ≤ fl_e a) : Jvm.FP.Core.exactSum (.fin s (fl_m a) ((fl_e a : Int) - 1075)) (.fin t (fl_m b) ((fl_e b : Int) - 1075)) = .fin (Jvm.FP.Core.sumSign s t (Jvm.FP.Core.signed s (fl_m a * 2 ^ (fl_e a - fl_e b)) + Jvm.FP.Core.signed t (fl_m b))) (Jvm.FP.Core.signed s (fl_m a * 2 ^ (fl_e a - fl_e b)) + Jvm.FP.Core.signed t (fl_m b)).natAbs ((fl_e b : Int) - 1075) := by
  have h1 : min ((fl_e a : Int) - 1075) ((fl_e b : Int) - 1075) = (fl_e b : Int) - 1075 := by omega
  have h2 : Jvm.FP.Core.sumUnits s (fl_m a) ((fl_e a : Int) - 1075) t (fl_m b) ((fl_e b : Int) - 1075) ((fl_e b : Int) - 1075) = Jvm.FP.Core.signed s (fl_m a * 2 ^ (fl_e a - fl_e b)) + Jvm.FP.Core.signed t (fl_m b) := by
    unfold Jvm.FP.Core.sumUnits Jvm.FP.Core.inUnits
    rw [show ((fl_e a : Int) - 1075 - ((fl_e b : Int) - 1075)).toNat = fl_e a - fl_e b by omega, show ((fl_e b : Int) - 1075 - ((fl_e b : Int) - 1075)).toNat = 0 by omega, Nat.pow_zero, Nat.mul_one]
  show Jvm.FP.Core.Datum.fin _ _ (min ((fl_e a : Int) - 1075) ((fl_e b : Int) - 1075)) = _
  rw [h1, h2]
/-- a sum whose value is known -/
theorem fl_val2 (s t sg : Bool) {a b P : Nat} (ha : fl_ok a) (hb : fl_ok b) (hd : fl_e b ≤ fl_e a) (h1 : Jvm.FP.Core.sumSign s t (Jvm.FP.Core.signed s (fl_m a * 2 ^ (fl_e a - fl_e b)) + Jvm.FP.Core.signed t (fl_m b)) = sg) (h2 : (Jvm.FP.Core.signed s (fl_m a * 2 ^ (fl_e a - fl_e b)) + Jvm.FP.Core.signed t (fl_m b)).natAbs = P) (hP : 0 < P) (hP2 : P < 2 ^ (fl_e a - fl_e b + 53 + 1)) : FP.dadd (fl_sg s a) (fl_sg t b) = fl_sg sg (fl_fin P (fl_e b)) := by
  have e1 := fl_oke ha
  have e2 := fl_oke hb
  have hl := fl_log hP hP2
  rw [fl_da, fl_okv s ha, fl_okv t hb, fl_un s t hd, h1, h2, fl_round, fl_finR sg (e := fl_e b) rfl hP (by omega) (by omega)]
  rfl
theorem fl_sgn1 (X : Nat) : Jvm.FP.Core.signed false X = (X : Int) := rfl
theorem fl_sgn2 (X : Nat) : Jvm.FP.Core.signed true X = -(X : Int) := rfl
theorem fl_ss1 (s t : Bool) {v : Int} (h : 0 < v) : Jvm.FP.Core.sumSign s t v = false := by
  unfold Jvm.FP.Core.sumSign
  rw [if_neg (by omega)]
  exact decide_eq_false (by omega)
theorem fl_ss2 (s t : Bool) {v : Int} (h : v < 0) : Jvm.FP.Core.sumSign s t v = true := by
  unfold Jvm.FP.Core.sumSign
  rw [if_neg (by omega)]
  exact decide_eq_true h
theorem fl_dadd {a b : Nat} (ha : fl_ok a) (hb : fl_ok b) (hd : fl_e b ≤ fl_e a) : FP.dadd (fl_sg false a) (fl_sg false b) = fl_sg false (fl_add a b) := by
  have w := fl_sl (a := a) (b := b) hd
  have m2 := fl_mb b
  have p2 := Nat.pow_succ 2 (fl_e a - fl_e b + 53)
  unfold fl_add
  refine fl_val2 false false false ha hb hd (fl_ss1 _ _ ?_) ?_ (by omega) ?_
  · rw [fl_sgn1, fl_sgn1]; generalize fl_m a * 2 ^ (fl_e a - fl_e b) = X at *; omega
  · rw [fl_sgn1, fl_sgn1]; generalize fl_m a * 2 ^ (fl_e a - fl_e b) = X at *; omega
  · rw [p2]; generalize fl_m a * 2 ^ (fl_e a - fl_e b) = X at *; generalize 2 ^ (fl_e a - fl_e b + 53) = Y at *; omega
/-- a less b, where a is greater -/
theorem fl_dmin {a b : Nat} (ha : fl_ok a) (hb : fl_ok b) (hd : fl_e b ≤ fl_e a) (hg : fl_m b < fl_m a * 2 ^ (fl_e a - fl_e b)) : FP.dadd (fl_sg false a) (fl_sg true b) = fl_sg false (fl_sub a b) := by
  have w := fl_sl (a := a) (b := b) hd
  have p2 := Nat.pow_succ 2 (fl_e a - fl_e b + 53)
  unfold fl_sub
  refine fl_val2 false true false ha hb hd (fl_ss1 _ _ ?_) ?_ (by omega) ?_
  · rw [fl_sgn1, fl_sgn2]; generalize fl_m a * 2 ^ (fl_e a - fl_e b) = X at *; omega
  · rw [fl_sgn1, fl_sgn2]; generalize fl_m a * 2 ^ (fl_e a - fl_e b) = X at *; omega
  · rw [p2]; generalize fl_m a * 2 ^ (fl_e a - fl_e b) = X at *; generalize 2 ^ (fl_e a - fl_e b + 53) = Y at *; omega
/-- .. where a is less -/
theorem fl_dmax {a b : Nat} (ha : fl_ok a) (hb : fl_ok b) (hd : fl_e b ≤ fl_e a) (hg : fl_m b < fl_m a * 2 ^ (fl_e a - fl_e b)) : FP.dadd (fl_sg true a) (fl_sg false b) = fl_sg true (fl_sub a b) := by
  have w := fl_sl (a := a) (b := b) hd
  have p2 := Nat.pow_succ 2 (fl_e a - fl_e b + 53)
  unfold fl_sub
  refine fl_val2 true false true ha hb hd (fl_ss2 _ _ ?_) ?_ (by omega) ?_
  · rw [fl_sgn1, fl_sgn2]; generalize fl_m a * 2 ^ (fl_e a - fl_e b) = X at *; omega
  · rw [fl_sgn1, fl_sgn2]; generalize fl_m a * 2 ^ (fl_e a - fl_e b) = X at *; omega
  · rw [p2]; generalize fl_m a * 2 ^ (fl_e a - fl_e b) = X at *; generalize 2 ^ (fl_e a - fl_e b + 53) = Y at *; omega
theorem fl_id (a : Nat) : fl_m a + fl_e a * 4503599627370496 - 4503599627370496 = a := by
  unfold fl_m fl_e
  omega
theorem fl_dn1 (x : UInt64) : Jvm.FP.Core.dneg x = UInt64.ofNat (Jvm.FP.Core.encode Jvm.FP.Core.b64 (Jvm.FP.Core.negate (Jvm.FP.Core.val64 x))) := rfl
theorem fl_ng (s : Bool) (c : Nat) (q : Int) : Jvm.FP.Core.negate (.fin s c q) = .fin (!s) c q := rfl
theorem fl_neg (s : Bool) {a : Nat} (ha : fl_ok a) : Jvm.FP.Core.dneg (fl_sg s a) = fl_sg (!s) a := by
  have h1 := fl_oke ha
  rw [fl_dn1, fl_okv s ha, fl_ng, fl_enc (!s) (by omega) (fl_mb a).1, fl_id]
  rfl
theorem fl_dsub {a b : Nat} (ha : fl_ok a) (hb : fl_ok b) (hd : fl_e b ≤ fl_e a) (hg : fl_m b < fl_m a * 2 ^ (fl_e a - fl_e b)) : FP.dsub (fl_sg false a) (fl_sg false b) = fl_sg false (fl_sub a b) := by
  rw [show FP.dsub (fl_sg false a) (fl_sg false b) = Jvm.FP.Core.dsub (fl_sg false a) (fl_sg false b) from rfl, Jvm.FP.Core.dsub_eq, fl_neg false hb]
  exact fl_dmin ha hb hd hg
theorem fl_dsubN {a b : Nat} (ha : fl_ok a) (hb : fl_ok b) (hd : fl_e b ≤ fl_e a) (hg : fl_m b < fl_m a * 2 ^ (fl_e a - fl_e b)) : FP.dsub (fl_sg false b) (fl_sg false a) = fl_sg true (fl_sub a b) := by
  rw [show FP.dsub (fl_sg false b) (fl_sg false a) = Jvm.FP.Core.dsub (fl_sg false b) (fl_sg false a) from rfl, Jvm.FP.Core.dsub_eq, fl_neg false ha, Jvm.FP.Core.dadd_comm]
  exact fl_dmax ha hb hd hg
theorem fl_z0 (s : Bool) : UInt64.ofNat (Jvm.FP.Core.encode Jvm.FP.Core.b64 (.fin false 0 Jvm.FP.Core.b64.qmin)) = 0 := by decide +kernel
theorem fl_dsub0 {a : Nat} (ha : fl_ok a) : FP.dsub (fl_sg false a) (fl_sg false a) = 0 := by
  have hv : Jvm.FP.Core.signed false (fl_m a * 2 ^ (fl_e a - fl_e a)) + Jvm.FP.Core.signed true (fl_m a) = 0 := by
    rw [Nat.sub_self, Nat.pow_zero, Nat.mul_one, fl_sgn1, fl_sgn2]
    omega
  rw [show FP.dsub (fl_sg false a) (fl_sg false a) = Jvm.FP.Core.dsub (fl_sg false a) (fl_sg false a) from rfl, Jvm.FP.Core.dsub_eq, fl_neg false ha, show Jvm.FP.Core.dadd (fl_sg false a) (fl_sg (!false) a) = FP.dadd (fl_sg false a) (fl_sg true a) from rfl, fl_da, fl_okv false ha, fl_okv true ha, fl_un false true (Nat.le_refl _), hv, show (0 : Int).natAbs = 0 from rfl, fl_round, fl_rz, show Jvm.FP.Core.sumSign false true 0 = false from rfl]
  exact fl_z0 false
theorem fl_v0 : Jvm.FP.Core.val64 0 = .fin false 0 (-1074) := by decide +kernel
theorem fl_ddiv0 {a : Nat} (ha : fl_ok a) : FP.ddiv 0 (fl_sg false a) = 0 := by
  have m1 := fl_mb a
  rw [fl_dd, fl_okv false ha, fl_v0, fl_quot _ _ _ _ _ _ _ (by omega), fl_rz]
  exact fl_z0 false
theorem fl_dmul0 {a : Nat} (ha : fl_ok a) : FP.dmul (fl_sg false a) 0 = 0 := by
  rw [fl_dm, fl_okv false ha, fl_v0, fl_prod, Nat.mul_zero, fl_round, fl_rz]
  exact fl_z0 false
theorem fl_dadd0 {a : Nat} (ha : fl_ok a) : FP.dadd (fl_sg false a) 0 = fl_sg false a := by
  have h1 := fl_oke ha
  have m1 := fl_mb a
  have hm : min ((fl_e a : Int) - 1075) (-1074) = -1074 := by omega
  have hv : Jvm.FP.Core.sumUnits false (fl_m a) ((fl_e a : Int) - 1075) false 0 (-1074) (-1074) = ((fl_m a * 2 ^ (fl_e a - 1) : Nat) : Int) := by
    unfold Jvm.FP.Core.sumUnits Jvm.FP.Core.inUnits
    rw [show ((fl_e a : Int) - 1075 - -1074).toNat = fl_e a - 1 by omega, Nat.zero_mul, fl_sgn1, fl_sgn1]
    generalize fl_m a * 2 ^ (fl_e a - 1) = X
    omega
  have hp : 0 < fl_m a * 2 ^ (fl_e a - 1) := Nat.mul_pos (by omega) (Nat.two_pow_pos _)
  have hs : Jvm.FP.Core.exactSum (.fin false (fl_m a) ((fl_e a : Int) - 1075)) (.fin false 0 (-1074)) = .fin false (fl_m a * 2 ^ (fl_e a - 1)) (-1074) := by
    show Jvm.FP.Core.Datum.fin _ _ (min ((fl_e a : Int) - 1075) (-1074)) = _
    rw [hm, hv, fl_ss1 _ _ (by generalize fl_m a * 2 ^ (fl_e a - 1) = X at *; omega), Int.natAbs_natCast]
  rw [fl_da, fl_okv false ha, fl_v0, hs, fl_round, Jvm.FP.Core.roundRatio_exact (c := fl_m a) (q := (fl_e a : Int) - 1075) Jvm.FP.Core.good_b64 (by decide) ⟨m1.2, by rw [fl_qmin]; omega, by rw [fl_qmax]; omega, Or.inr m1.1⟩ (by rw [show (-1074 - ((fl_e a : Int) - 1075)).toNat = 0 by omega, show ((fl_e a : Int) - 1075 - -1074).toNat = fl_e a - 1 by omega, Nat.pow_zero, Nat.mul_one, Nat.mul_one]), fl_enc false (by omega) m1.1, fl_id]
  rfl
theorem fl_nn (s : Bool) {a : Nat} (ha : fl_ok a) : vf_n64 (fl_sg s a) := nn64 (by rw [fl_okv s ha]; exact Jvm.FP.Core.Datum.noConfusion)
theorem fl_fin1 {m : Nat} (h1 : 4503599627370496 ≤ m) (h2 : m < 9007199254740992) : fl_fin m 1075 = m + 4836865999795912704 := by
  have hl : m.log2 = 52 := by
    have a := fl_log (k := 52) (by omega) h2
    have b : 52 ≤ m.log2 := (Nat.le_log2 (by omega)).mpr h1
    omega
  unfold fl_fin
  rw [if_pos (by omega), hl, show 2 ^ (52 - 52) = 1 from rfl, fl_nr1]
  omega
theorem fl_fin2 {j : Nat} (h : j < 63) : fl_fin (2 ^ j) 1075 = (1023 + j) * 4503599627370496 := by
  have hl : (2 ^ j).log2 = j := Nat.log2_two_pow
  unfold fl_fin
  rw [hl]
  split
  · rename_i h1
    have h2 : 2 ^ j = 2 ^ (j - 52) * 4503599627370496 := by
      rw [show (4503599627370496 : Nat) = 2 ^ 52 from rfl, ← Nat.pow_add]; congr 1; omega
    have h3 : 0 < 2 ^ (j - 52) := Nat.two_pow_pos _
    have h4 : fl_nr (2 ^ j) (2 ^ (j - 52)) = 4503599627370496 := by
      rw [← fl_near h3, h2, Nat.mul_comm, Jvm.FP.Core.nearest_exact _ h3]
    rw [h4]; omega
  · rename_i h1
    rw [← Nat.pow_add, show j + (52 - j) = 52 by omega]; omega
theorem fl_l2d {m : Nat} (h0 : 0 < m) (h : m < 9223372036854775808) : FP.l2d (lN m) = fl_sg false (fl_fin m 1075) := by
  show UInt64.ofNat (Jvm.FP.Core.encode Jvm.FP.Core.b64 (Jvm.FP.Core.round Jvm.FP.Core.b64 (Jvm.FP.Core.ofInt (lN m).toInt))) = _
  have ht : (lN m).toInt = (m : Int) := by rw [pk_lT (by omega)]
  rw [ht]
  show UInt64.ofNat (Jvm.FP.Core.encode Jvm.FP.Core.b64 (Jvm.FP.Core.roundRatio Jvm.FP.Core.b64 (decide ((m : Int) < 0)) m 1 0)) = _
  have hl := fl_log (k := 62) h0 (by omega)
  rw [fl_finR _ (e := 1075) (e1 := 0) (by omega) h0 (by omega) (by omega), decide_eq_false (by omega)]
  rfl
theorem fl_i2d {m : Nat} (h0 : 0 < m) (h : m < 2147483648) : FP.i2d (nI m) = fl_sg false (fl_fin m 1075) := by
  show UInt64.ofNat (Jvm.FP.Core.encode Jvm.FP.Core.b64 (Jvm.FP.Core.round Jvm.FP.Core.b64 (Jvm.FP.Core.ofInt (nI m).toInt))) = _
  have ht : (nI m).toInt = (m : Int) := by rw [nI_toInt (by omega)]
  rw [ht]
  show UInt64.ofNat (Jvm.FP.Core.encode Jvm.FP.Core.b64 (Jvm.FP.Core.roundRatio Jvm.FP.Core.b64 (decide ((m : Int) < 0)) m 1 0)) = _
  have hl := fl_log (k := 30) h0 (by omega)
  rw [fl_finR _ (e := 1075) (e1 := 0) (by omega) h0 (by omega) (by omega), decide_eq_false (by omega)]
  rfl
theorem fl_ar0 {M E J D a U L K : Nat} (m1 : U ≤ M) (h3 : M + E - U = a) (h4 : E + L = J + D) (hk : K = L + U) : M + (D + U) - U = a + K - J := by omega
theorem fl_ar {M E J D a : Nat} (m1 : 4503599627370496 ≤ M) (h3 : M + E - 4503599627370496 = a) (h4 : E + 4602678819172646912 = J + D) : M + (D + 4503599627370496) - 4503599627370496 = a + 4607182418800017408 - J := fl_ar0 m1 h3 h4 rfl
/-- by a power of two -/
theorem fl_div2 {a j : Nat} (h : j ≤ fl_e a + 1022) (hj : 1 ≤ j) : fl_div a (j * 4503599627370496) = a + 4607182418800017408 - j * 4503599627370496 := by
  have m1 := fl_mb a
  have h1 : fl_m (j * 4503599627370496) = 4503599627370496 := by unfold fl_m; omega
  have h2 : fl_e (j * 4503599627370496) = j := by unfold fl_e; omega
  unfold fl_div
  rw [h1, h2, if_neg (by omega), ← fl_near (Nat.le_of_ble_eq_true rfl), Jvm.FP.Core.nearest_exact _ (Nat.le_of_ble_eq_true rfl)]
  have h3 := fl_id a
  obtain ⟨d, hd⟩ : ∃ d, fl_e a + 1022 = j + d := ⟨fl_e a + 1022 - j, by omega⟩
  rw [show fl_e a + 1023 - j = d + 1 by omega]
  have h4 : fl_e a * 4503599627370496 + 4602678819172646912 = j * 4503599627370496 + d * 4503599627370496 := by
    rw [← Nat.add_mul, ← hd, Nat.add_mul]
  rw [Nat.succ_mul]
  exact fl_ar m1.1 h3 h4
