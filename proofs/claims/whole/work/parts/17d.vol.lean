/-! The volumes: what the reckoning says of each. -/
def vol (e0 : Nat) : Prop := 0 < e0 ∧ e0 ≤ 524280 ∧ (e0 ≤ 65535 ∨ e0 % 8 = 0)
theorem fl_all : fl_R 0 65536 := fl_J fl_R0 (fl_J fl_R1 (fl_J fl_R2 (fl_J fl_R3 (fl_J fl_R4 (fl_J fl_R5 (fl_J fl_R6 fl_R7))))))
theorem ok_e {e : Nat} (h0 : 0 < e) (h : e < 65536) : n_near e (cbB e) = true ∧ cbB (8 * e) = cbB e + 4503599627370496 ∧ (∃ k, n_ch (fl_x e) k = true) ∧ ∃ k, n_ch (fl_x (8 * e)) k = true := by
  have h1 := fl_all e (Nat.zero_le _) h
  unfold n_ok at h1
  rw [fb_eq, if_neg (by rw [Nat.ble_eq]; omega), n_x_eq] at h1
  obtain ⟨-, -, -, -, -, -, -, -, -, -, -, -, -, -, -, -, n1, n2, n3, n4, n5, -, -, -, -, -, -, -, -, -, -, -, -, hk⟩ := fl_ch h1
  have hk : gd (n_near e (cbB e)) (n_x (Nat.mul 8 e) fun y => n_ch y fun r8 => Nat.beq r8 (Nat.add (cbB e) 4503599627370496)) = true := hk
  rw [gd_iff, n_x_eq] at hk
  obtain ⟨-, -, -, -, -, -, -, -, -, -, -, -, -, -, -, -, m1, m2, m3, m4, m5, -, -, -, -, -, -, -, -, -, -, -, -, hk2⟩ := fl_ch hk.2
  exact ⟨hk.1, Nat.eq_of_beq_eq_true hk2, ⟨_, h1⟩, ⟨_, hk.2⟩⟩
theorem vol_ch {e0 : Nat} (h : vol e0) : ∃ k, n_ch (fl_x e0) k = true := by
  obtain ⟨h0, h1, h2⟩ := h
  by_cases q : e0 < 65536
  · exact (ok_e h0 q).2.2.1
  · have := (ok_e (e := e0 / 8) (by omega) (by omega)).2.2.2
    rw [show 8 * (e0 / 8) = e0 by omega] at this
    exact this
def kb (e0 : Nat) : Nat := cbB e0 / 2 ^ 52
def mt (e0 : Nat) : Nat := cbB e0 % 2 ^ 52 + 2 ^ 52
def nearP (e0 : Nat) : Prop := (mt e0 - 1) * (mt e0 - 1) * (mt e0 - 1) < e0 * (2 ^ (1074 - kb e0) * 2 ^ (1074 - kb e0) * 2 ^ (1074 - kb e0)) ∧ e0 * (2 ^ (1074 - kb e0) * 2 ^ (1074 - kb e0) * 2 ^ (1074 - kb e0)) < (mt e0 + 1) * (mt e0 + 1) * (mt e0 + 1)
theorem near_e {e : Nat} (h0 : 0 < e) (h : e < 65536) : 1022 ≤ kb e ∧ kb e ≤ 1027 ∧ nearP e := by
  have h1 := (ok_e h0 h).1
  unfold n_near at h1
  simp only [fc_eq, gd_iff] at h1
  obtain ⟨a, b, c, d⟩ := h1
  exact ⟨Nat.le_of_ble_eq_true a, Nat.le_of_ble_eq_true b, Nat.le_of_ble_eq_true c, Nat.le_of_ble_eq_true d⟩
/-- part (2) -/
theorem cb_8 {e0 : Nat} (h : vol e0) (h8 : vol (8 * e0)) : cbB (8 * e0) = cbB e0 + 4503599627370496 := (ok_e h.1 (by have := h8.2.1; omega)).2.1
/-- part (3), in whole numbers -/
theorem cb_nearP {e0 : Nat} (h : vol e0) : 1022 ≤ kb e0 ∧ kb e0 ≤ 1028 ∧ nearP e0 := by
  obtain ⟨h0, h1, h2⟩ := h
  by_cases q : e0 < 65536
  · have := near_e h0 q
    exact ⟨this.1, by omega, this.2.2⟩
  · have h3 := near_e (e := e0 / 8) (by omega) (by omega)
    have h4 := (ok_e (e := e0 / 8) (by omega) (by omega)).2.1
    rw [show 8 * (e0 / 8) = e0 by omega] at h4
    have k1 : kb e0 = kb (e0 / 8) + 1 := by unfold kb; rw [h4]; omega
    have k2 : mt e0 = mt (e0 / 8) := by unfold mt; rw [h4]; omega
    obtain ⟨a, b, c, d⟩ := h3
    have e1 : (e0 / 8) * (2 ^ (1074 - kb (e0 / 8)) * 2 ^ (1074 - kb (e0 / 8)) * 2 ^ (1074 - kb (e0 / 8))) = e0 * (2 ^ (1074 - kb e0) * 2 ^ (1074 - kb e0) * 2 ^ (1074 - kb e0)) := by
      rw [show 1074 - kb (e0 / 8) = (1074 - kb e0) + 1 by omega, Nat.pow_succ]
      generalize 2 ^ (1074 - kb e0) = w
      have : e0 = 8 * (e0 / 8) := by omega
      generalize e0 / 8 = f at *
      subst this
      have : w * 2 * (w * 2) * (w * 2) = 8 * (w * w * w) := by
        rw [show (8 : Nat) = 2 * 2 * 2 from rfl]; ac_rfl
      rw [this, ← Nat.mul_assoc, Nat.mul_comm f 8]
    rw [e1] at c d
    rw [← k2] at c d
    exact ⟨by omega, by omega, c, d⟩
