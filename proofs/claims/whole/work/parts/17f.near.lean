/-! What follows of nearness alone, in whole numbers: order, sums, products, whole parts, exactness. -/
theorem x_rootF_le (v : Nat) : ∀ (n f : Nat), f * f * f ≤ v → rootF v n f * rootF v n f * rootF v n f ≤ v
  | 0, _, h => h
  | n + 1, f, h => by
    by_cases h2 : (f + 2 ^ n) * (f + 2 ^ n) * (f + 2 ^ n) ≤ v
    · rw [rootF, if_pos h2]; exact x_rootF_le v n _ h2
    · rw [rootF, if_neg h2]; exact x_rootF_le v n _ h
theorem x_cube {a b : Nat} (h : a ≤ b) : a * a * a ≤ b * b * b := Nat.mul_le_mul (Nat.mul_le_mul h h) h
theorem x_cubel {a b : Nat} (h : a * a * a < b * b * b) : a < b := Nat.not_le.mp fun q => absurd (x_cube q) (Nat.not_le.mpr h)
theorem x_rootF_ge (v g : Nat) (hg : g * g * g ≤ v) : ∀ (n f : Nat), g < f + 2 ^ n → g ≤ rootF v n f
  | 0, f, h => by show g ≤ f; omega
  | n + 1, f, h => by
    have h2 : 2 ^ (n + 1) = 2 ^ n * 2 := Nat.pow_succ 2 n
    show g ≤ rootF v n (if _ then _ else _)
    split
    · exact x_rootF_ge v g hg n (f + 2 ^ n) (by omega)
    · rename_i h3
      refine x_rootF_ge v g hg n _ (Nat.not_le.mp fun q => h3 (Nat.le_trans (x_cube q) hg))
theorem x_rt_eq {v f : Nat} (hf : f < 65536) (h1 : f * f * f ≤ v) (h2 : v < (f + 1) * (f + 1) * (f + 1)) : rt v = f := by
  have a : f ≤ rt v := x_rootF_ge v f h1 16 0 (by omega)
  have b : rt v * rt v * rt v ≤ v := x_rootF_le v 16 0 (Nat.zero_le _)
  have c : rt v < f + 1 := x_cubel (Nat.lt_of_le_of_lt b h2)
  omega
theorem x3 (Y : Nat) : 3 * Y = Y + Y + Y := by omega
theorem x_cs (u t : Nat) : (u + t) * (u + t) * (u + t) ≤ u * u * u + 3 * (t * ((u + t) * (u + t))) := by
  simp only [x3]
  simp only [Nat.mul_add, Nat.add_mul, Nat.mul_assoc, Nat.mul_comm, Nat.mul_left_comm]
  omega
/-- what lies near q T with q T whole -/
theorem x_up {M q T V : Nat} (h1 : V * (T * T * T) < (M + 1) * (M + 1) * (M + 1)) (h2 : M + 1 ≤ (q + 1) * T) (hT : 0 < T) : V < (q + 1) * (q + 1) * (q + 1) := by
  have h3 := Nat.lt_of_lt_of_le h1 (x_cube h2)
  have h4 : (q + 1) * T * ((q + 1) * T) * ((q + 1) * T) = (q + 1) * (q + 1) * (q + 1) * (T * T * T) := by ac_rfl
  rw [h4] at h3
  exact Nat.lt_of_mul_lt_mul_right h3
theorem x_lo {M q T V : Nat} (h1 : (M - 1) * (M - 1) * (M - 1) < V * (T * T * T)) (h2 : q * T ≤ M) (hq : 3 * (q * q) < T) (h0 : 0 < q) : q * q * q ≤ V := by
  apply Nat.not_lt.mp
  intro hV
  have hT : 0 < T := by omega
  have e1 : (V + 1) * (T * T * T) ≤ q * q * q * (T * T * T) := Nat.mul_le_mul_right _ hV
  have e2 : q * q * q * (T * T * T) = (q * T) * (q * T) * (q * T) := by ac_rfl
  have hF : 0 < q * T := Nat.mul_pos h0 hT
  obtain ⟨F, hFe⟩ : ∃ F, q * T = F + 1 := ⟨q * T - 1, by omega⟩
  have e3 : F * F * F ≤ (M - 1) * (M - 1) * (M - 1) := x_cube (by omega)
  have e4 := x_cs F 1
  have e5 : 3 * (1 * ((F + 1) * (F + 1))) = 3 * (q * q) * (T * T) := by
    rw [← hFe, Nat.one_mul, Nat.mul_assoc 3]
    congr 1
    ac_rfl
  have e6 : 3 * (q * q) * (T * T) < T * (T * T) := Nat.mul_lt_mul_of_pos_right hq (Nat.mul_pos hT hT)
  have e7 : T * (T * T) = T * T * T := (Nat.mul_assoc T T T).symm
  rw [e2, hFe] at e1
  rw [Nat.add_mul, Nat.one_mul] at e1
  omega
/-- .. and is it -/
theorem x_hi {M q T V : Nat} (h1 : V * (T * T * T) < (M + 1) * (M + 1) * (M + 1)) (h2 : M = q * T) (hq : 3 * (q * q) + 3 * q + 1 ≤ T) : V ≤ q * q * q := by
  apply Nat.not_lt.mp
  intro hV
  have e1 : (q * q * q + 1) * (T * T * T) ≤ V * (T * T * T) := Nat.mul_le_mul_right _ hV
  subst h2
  have hT : 1 ≤ T := by omega
  have e3 : (q * T + 1) * (q * T + 1) * (q * T + 1) ≤ q * q * q * (T * T * T) + (3 * (q * q) + 3 * q + 1) * (T * T) := by
    have a1 : q * T ≤ q * (T * T) := Nat.mul_le_mul_left _ (Nat.le_mul_of_pos_right _ hT)
    have a2 : 1 ≤ T * T := Nat.mul_pos hT hT
    have a3 : (q * T + 1) * (q * T + 1) * (q * T + 1) = q * q * q * (T * T * T) + 3 * (q * q * (T * T)) + 3 * (q * T) + 1 := by
      simp only [x3]
      simp only [Nat.mul_add, Nat.add_mul, Nat.mul_assoc, Nat.mul_comm, Nat.mul_left_comm, Nat.mul_one, Nat.one_mul]
      omega
    rw [a3]
    have a4 : (3 * (q * q) + 3 * q + 1) * (T * T) = 3 * (q * q * (T * T)) + 3 * (q * (T * T)) + T * T := by
      simp only [Nat.add_mul, Nat.one_mul, Nat.mul_assoc]
    rw [a4]
    omega
  have e4 : (3 * (q * q) + 3 * q + 1) * (T * T) ≤ T * (T * T) := Nat.mul_le_mul_right _ hq
  have e7 : T * (T * T) = T * T * T := (Nat.mul_assoc T T T).symm
  rw [Nat.add_mul, Nat.one_mul] at e1
  omega
theorem x_ex {M q T V : Nat} (h1 : (M - 1) * (M - 1) * (M - 1) < V * (T * T * T)) (h2 : V * (T * T * T) < (M + 1) * (M + 1) * (M + 1)) (h : V = q * q * q) : M = q * T := by
  have e2 : V * (T * T * T) = (q * T) * (q * T) * (q * T) := by subst h; ac_rfl
  rw [e2] at h1 h2
  have a := x_cubel h1
  have b := x_cubel h2
  omega
theorem x_mt (e : Nat) : 4503599627370496 ≤ mt e ∧ mt e < 9007199254740992 := by
  unfold mt
  omega
theorem x_cb (e : Nat) : cbB e + 4503599627370496 = kb e * 4503599627370496 + mt e := by
  unfold kb mt
  omega
/-- an edge in parts of 2 to the power -53 -/
def eR (e : Nat) : Nat := mt e * 2 ^ (kb e - 1022)
theorem eR_near {e : Nat} (h : vol e) : (eR e - 64) * (eR e - 64) * (eR e - 64) < e * (4503599627370496 * 4503599627370496 * 4503599627370496) ∧ e * (4503599627370496 * 4503599627370496 * 4503599627370496) < (eR e + 64) * (eR e + 64) * (eR e + 64) ∧ 4503599627370496 ≤ eR e ∧ eR e < 576460752303423488 := by
  obtain ⟨h1, h2, h3, h4⟩ := cb_nearP h
  have m := x_mt e
  have w : 2 ^ (1074 - kb e) * 2 ^ (kb e - 1022) = 4503599627370496 := by
    rw [← Nat.pow_add, show 1074 - kb e + (kb e - 1022) = 52 by omega]
  have d1 : 0 < 2 ^ (kb e - 1022) := Nat.two_pow_pos _
  have d2 : 2 ^ (kb e - 1022) ≤ 64 := Nat.pow_le_pow_right (by decide) (show kb e - 1022 ≤ 6 by omega)
  unfold eR
  generalize 2 ^ (kb e - 1022) = D at *
  generalize 2 ^ (1074 - kb e) = T at *
  generalize mt e = M at *
  have e1 : e * (4503599627370496 * 4503599627370496 * 4503599627370496) = e * (T * T * T) * (D * D * D) := by
    rw [← w]; ac_rfl
  have p : 0 < D * D * D := Nat.mul_pos (Nat.mul_pos d1 d1) d1
  have f1 := Nat.mul_lt_mul_of_pos_right h3 p
  have f2 := Nat.mul_lt_mul_of_pos_right h4 p
  have g1 : (M - 1) * (M - 1) * (M - 1) * (D * D * D) = (M * D - D) * (M * D - D) * (M * D - D) := by
    rw [show M * D - D = (M - 1) * D by rw [Nat.sub_mul, Nat.one_mul]]; ac_rfl
  have g2 : (M + 1) * (M + 1) * (M + 1) * (D * D * D) = (M * D + D) * (M * D + D) * (M * D + D) := by
    rw [show M * D + D = (M + 1) * D by rw [Nat.add_mul, Nat.one_mul]]; ac_rfl
  rw [e1]
  rw [g1] at f1
  rw [g2] at f2
  refine ⟨Nat.lt_of_le_of_lt (x_cube (by omega)) f1, Nat.lt_of_lt_of_le f2 (x_cube (by omega)), ?_, ?_⟩
  · exact Nat.le_trans m.1 (Nat.le_mul_of_pos_right _ d1)
  · exact Nat.lt_of_le_of_lt (Nat.mul_le_mul (show M ≤ 9007199254740991 by omega) d2) (Nat.le_of_ble_eq_true rfl)
theorem eR_cb {a b : Nat} (ha : vol a) (hb : vol b) (h : cbB b ≤ cbB a) : eR b ≤ eR a := by
  have ka := cb_nearP ha
  have kB := cb_nearP hb
  have ma := x_mt a
  have mb := x_mt b
  have ca := x_cb a
  have cb := x_cb b
  unfold eR
  by_cases q : kb b = kb a
  · rw [q]
    rw [q] at cb
    exact Nat.mul_le_mul_right _ (by omega)
  · have q2 : kb b < kb a := by omega
    have e1 : 2 ^ (kb a - 1022) = 2 ^ (kb b - 1022) * 2 ^ (kb a - kb b) := by rw [← Nat.pow_add, show kb b - 1022 + (kb a - kb b) = kb a - 1022 by omega]
    have e2 : 2 ^ 1 ≤ 2 ^ (kb a - kb b) := Nat.pow_le_pow_right (by decide) (by omega)
    rw [e1, ← Nat.mul_assoc, Nat.mul_right_comm]
    have e3 : mt b ≤ mt a * 2 ^ (kb a - kb b) := Nat.le_trans (by omega) (Nat.mul_le_mul ma.1 e2)
    exact Nat.mul_le_mul_right _ e3
theorem x_f1 {A3 P W Q B3 A4 X L : Nat} (a1 : A3 < P) (b2 : Q < B3) (e1 : P + W ≤ Q) (e2 : B3 ≤ A4) (e3 : A4 ≤ A3 + 3 * (128 * X)) (e4 : X ≤ L) (h : 3 * (128 * L) ≤ W) : False := by omega
/-- part (5) -/
theorem cb_lt {a b : Nat} (ha : vol a) (hb : vol b) (h : a < b) : cbB a < cbB b := by
  apply Nat.not_le.mp
  intro q
  have hR := eR_cb ha hb q
  obtain ⟨a1, a2, a3, a4⟩ := eR_near ha
  obtain ⟨b1, b2, b3, b4⟩ := eR_near hb
  have e1 : (a + 1) * (4503599627370496 * 4503599627370496 * 4503599627370496) ≤ b * (4503599627370496 * 4503599627370496 * 4503599627370496) := Nat.mul_le_mul_right _ h
  rw [Nat.add_mul, Nat.one_mul] at e1
  have e2 : (eR b + 64) * (eR b + 64) * (eR b + 64) ≤ (eR a + 64) * (eR a + 64) * (eR a + 64) := x_cube (by omega)
  have e3 := x_cs (eR a - 64) 128
  rw [show eR a - 64 + 128 = eR a + 64 by omega] at e3
  have e4 : (eR a + 64) * (eR a + 64) ≤ 1152921504606846976 * 1152921504606846976 := Nat.mul_le_mul (by omega) (by omega)
  exact x_f1 a1 b2 e1 e2 e3 e4 (Nat.le_of_ble_eq_true rfl)
/-- part (7) -/
theorem cb_sum {a b : Nat} (ha : vol a) (hb : vol b) (hs : vol (a + b)) : eR (a + b) < eR a + eR b := by
  apply Nat.not_le.mp
  intro q
  obtain ⟨a1, a2, a3, a4⟩ := eR_near ha
  obtain ⟨b1, b2, b3, b4⟩ := eR_near hb
  obtain ⟨s1, s2, s3, s4⟩ := eR_near hs
  rw [Nat.add_mul] at s1
  have e1 : (eR a + eR b - 64) * (eR a + eR b - 64) * (eR a + eR b - 64) ≤ (eR (a + b) - 64) * (eR (a + b) - 64) * (eR (a + b) - 64) := x_cube (by omega)
  obtain ⟨x, hx⟩ : ∃ x, x = eR a + 64 := ⟨_, rfl⟩
  obtain ⟨y, hy⟩ : ∃ y, y = eR b + 64 := ⟨_, rfl⟩
  rw [← hx] at a2
  rw [← hy] at b2
  have e2 := x_cs (x + y - 192) 192
  rw [show x + y - 192 + 192 = x + y by omega] at e2
  rw [show eR a + eR b - 64 = x + y - 192 by omega] at e1
  have e3 : (x + y) * (x + y) * (x + y) = x * x * x + y * y * y + 3 * (x * y * (x + y)) := by
    simp only [x3]
    simp only [Nat.mul_add, Nat.add_mul, Nat.mul_assoc, Nat.mul_comm, Nat.mul_left_comm]
    omega
  have e4 : 192 * (x + y) ≤ x * y := by
    have p1 : 384 * y ≤ x * y := Nat.mul_le_mul_right _ (by omega)
    have p2 : x * 384 ≤ x * y := Nat.mul_le_mul_left _ (by omega)
    omega
  have e5 : 192 * ((x + y) * (x + y)) ≤ x * y * (x + y) := by
    rw [← Nat.mul_assoc]
    exact Nat.mul_le_mul_right _ e4
  omega
