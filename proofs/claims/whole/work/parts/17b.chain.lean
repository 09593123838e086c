/-! The cube root's steps in whole numbers, and a form of them that is quick to reckon. -/
noncomputable def fc {α : Type} (n : Nat) (f : Nat → α) : α := Nat.rec (f 0) (fun k _ => f (Nat.succ k)) n
theorem fc_eq {α : Type} (n : Nat) (f : Nat → α) : fc n f = f n := by cases n <;> rfl
noncomputable def fb {α : Type} (b : Bool) (x y : α) : α := Bool.rec y x b
theorem fb_eq {α : Type} (b : Bool) (x y : α) : fb b x y = if b = true then x else y := by cases b <;> rfl
noncomputable def gd (b k : Bool) : Bool := fb b k false
theorem gd_iff (b k : Bool) : gd b k = true ↔ b = true ∧ k = true := by cases b <;> cases k <;> decide
noncomputable def okB (v : Nat) : Bool := fb (Nat.ble 4053239664633446400 v) (Nat.ble (Nat.succ v) 5179139571476070400) false
theorem okB_iff (v : Nat) : okB v = true ↔ fl_ok v := by
  unfold okB fl_ok
  rw [fb_eq]
  split
  · rename_i h
    rw [Nat.ble_eq] at h ⊢
    exact ⟨fun q => ⟨h, q⟩, fun q => q.2⟩
  · rename_i h
    rw [Nat.ble_eq] at h
    exact ⟨fun q => Bool.noConfusion q, fun q => absurd q.1 h⟩
noncomputable def n_nr {α : Type} (N D : Nat) (k : Nat → α) : α := fc (Nat.div N D) fun q => k (Nat.div (Nat.add (Nat.add (Nat.mul 2 N) (Nat.sub D 1)) (Nat.mod q 2)) (Nat.mul 2 D))
theorem n_nr_eq {α : Type} (N D : Nat) (k : Nat → α) : n_nr N D k = k (fl_nr N D) := by
  unfold n_nr
  rw [fc_eq]
  rfl
noncomputable def n_fL {α : Type} (p e L : Nat) (k : Nat → α) : α := fb (Nat.ble 52 L)
  (fc (Nat.pow 2 (Nat.sub L 52)) fun D => n_nr p D fun c => fc (Nat.sub (Nat.add c (Nat.mul (Nat.sub (Nat.add e L) 52) 4503599627370496)) 4503599627370496) k)
  (fc (Nat.sub (Nat.add (Nat.mul p (Nat.pow 2 (Nat.sub 52 L))) (Nat.mul (Nat.sub (Nat.add e L) 52) 4503599627370496)) 4503599627370496) k)
theorem n_fL_eq {α : Type} {p L : Nat} (h : p.log2 = L) (e : Nat) (k : Nat → α) : n_fL p e L k = k (fl_fin p e) := by
  subst h
  unfold n_fL fl_fin
  simp only [fc_eq, fb_eq, n_nr_eq, Nat.ble_eq]
  split <;> rfl
theorem log_eq {p L : Nat} (h1 : 2 ^ L ≤ p) (h2 : p < 2 ^ (L + 1)) : p.log2 = L := by
  have h0 : 0 < 2 ^ L := Nat.two_pow_pos L
  have a := fl_log (by omega) h2
  have b : L ≤ p.log2 := (Nat.le_log2 (by omega)).mpr h1
  omega
noncomputable def n_lg {α : Type} (i : Nat) : Nat → Nat → (Nat → α) → α := Nat.rec (fun _ acc k => k acc) (fun i ih p acc k => fc (Nat.pow 2 (Nat.pow 2 i)) fun P => fb (Nat.ble P p) (fc (Nat.div p P) fun q => fc (Nat.add acc (Nat.pow 2 i)) fun a => ih q a k) (ih p acc k)) i
theorem n_lg_eq {α : Type} : ∀ (i p acc : Nat) (k : Nat → α), 0 < p → p < 2 ^ 2 ^ i → n_lg i p acc k = k (acc + p.log2)
  | 0, p, acc, k, h0, h => by
    have : p = 1 := by
      have : p < 2 := h
      omega
    subst this
    rfl
  | i + 1, p, acc, k, h0, h => by
    have e1 : n_lg (i + 1) p acc k = fc (Nat.pow 2 (Nat.pow 2 i)) fun P => fb (Nat.ble P p) (fc (Nat.div p P) fun q => fc (Nat.add acc (Nat.pow 2 i)) fun a => n_lg i q a k) (n_lg i p acc k) := rfl
    have hP : 2 ^ 2 ^ (i + 1) = 2 ^ 2 ^ i * 2 ^ 2 ^ i := by rw [← Nat.pow_add, Nat.pow_succ, Nat.mul_two]
    rw [e1]
    simp only [fc_eq, fb_eq, Nat.ble_eq]
    show (if 2 ^ 2 ^ i ≤ p then n_lg i (p / 2 ^ 2 ^ i) (acc + 2 ^ i) k else n_lg i p acc k) = _
    have hp : 0 < 2 ^ 2 ^ i := Nat.two_pow_pos _
    split
    · rename_i hc
      have q0 : 0 < p / 2 ^ 2 ^ i := Nat.div_pos hc hp
      rw [n_lg_eq i _ _ _ q0 ((Nat.div_lt_iff_lt_mul hp).mpr (by rw [← hP]; exact h))]
      congr 1
      have l1 : 2 ^ (p / 2 ^ 2 ^ i).log2 ≤ p / 2 ^ 2 ^ i := Nat.log2_self_le (by omega)
      have l2 : p / 2 ^ 2 ^ i < 2 ^ ((p / 2 ^ 2 ^ i).log2 + 1) := Nat.lt_log2_self
      have := log_eq (p := p) (L := 2 ^ i + (p / 2 ^ 2 ^ i).log2) (by rw [Nat.pow_add, Nat.mul_comm]; exact (Nat.le_div_iff_mul_le hp).mp l1) (by rw [Nat.add_assoc, Nat.pow_add, Nat.mul_comm]; exact (Nat.div_lt_iff_lt_mul hp).mp l2)
      omega
    · rename_i hc
      exact n_lg_eq i p acc k h0 (by omega)
noncomputable def n_fin {α : Type} (p e : Nat) (k : Nat → α) : α := fb (Nat.ble 1 p) (fb (Nat.ble p 340282366920938463463374607431768211455) (n_lg 7 p 0 fun L => n_fL p e L k) (n_fL p e (Nat.log2 p) k)) (n_fL p e (Nat.log2 p) k)
theorem n_fin_eq {α : Type} (p e : Nat) (k : Nat → α) : n_fin p e k = k (fl_fin p e) := by
  unfold n_fin
  simp only [fb_eq, Nat.ble_eq]
  split
  · rename_i h1
    split
    · rename_i h2
      rw [n_lg_eq 7 p 0 _ h1 (Nat.lt_of_le_of_lt h2 (Nat.le_of_ble_eq_true rfl)), Nat.zero_add]
      exact n_fL_eq rfl e k
    · exact n_fL_eq rfl e k
  · exact n_fL_eq rfl e k
noncomputable def n_un {α : Type} (a : Nat) (k : Nat → Nat → α) : α := fc (Nat.add (Nat.mod a 4503599627370496) 4503599627370496) fun m => fc (Nat.div a 4503599627370496) fun e => k m e
theorem n_un_eq {α : Type} (a : Nat) (k : Nat → Nat → α) : n_un a k = k (fl_m a) (fl_e a) := by
  unfold n_un
  simp only [fc_eq]
  rfl
noncomputable def n_mul {α : Type} (a b : Nat) (k : Nat → α) : α := n_un a fun ma ea => n_un b fun mb eb => fc (Nat.mul ma mb) fun p => fc (Nat.sub (Nat.add ea eb) 1075) fun e => fb (Nat.ble 40564819207303340847894502572032 p) (n_fL p e 105 k) (n_fL p e 104 k)
theorem n_mul_eq {α : Type} (a b : Nat) (k : Nat → α) : n_mul a b k = k (fl_mul a b) := by
  unfold n_mul
  simp only [fc_eq, n_un_eq, fb_eq, Nat.ble_eq]
  have m1 := fl_mb a
  have m2 := fl_mb b
  have h1 : 2 ^ 104 ≤ fl_m a * fl_m b := by
    rw [show (2 : Nat) ^ 104 = 4503599627370496 * 4503599627370496 from rfl]
    exact Nat.mul_le_mul m1.1 m2.1
  have h2 : fl_m a * fl_m b < 2 ^ 106 := by
    rw [show (2 : Nat) ^ 106 = 9007199254740992 * 9007199254740992 from rfl]
    exact Nat.mul_lt_mul_of_lt_of_lt m1.2 m2.2
  show (if 40564819207303340847894502572032 ≤ fl_m a * fl_m b then n_fL (fl_m a * fl_m b) (fl_e a + fl_e b - 1075) 105 k else n_fL (fl_m a * fl_m b) (fl_e a + fl_e b - 1075) 104 k) = _
  split
  · rename_i h
    exact n_fL_eq (log_eq h h2) _ k
  · rename_i h
    exact n_fL_eq (log_eq h1 (Nat.lt_of_not_le h)) _ k
noncomputable def n_add {α : Type} (a b : Nat) (k : Nat → α) : α := n_un a fun ma ea => n_un b fun mb eb => fc (Nat.sub ea eb) fun d => fc (Nat.add (Nat.mul ma (Nat.pow 2 d)) mb) fun p => fb (Nat.ble (Nat.pow 2 (Nat.add 53 d)) p) (n_fL p eb (Nat.add 53 d) k) (n_fL p eb (Nat.add 52 d) k)
theorem n_add_eq {α : Type} (a b : Nat) (k : Nat → α) : n_add a b k = k (fl_add a b) := by
  unfold n_add
  simp only [fc_eq, n_un_eq, fb_eq, Nat.ble_eq]
  have m1 := fl_mb a
  have m2 := fl_mb b
  show (if 2 ^ (53 + (fl_e a - fl_e b)) ≤ fl_m a * 2 ^ (fl_e a - fl_e b) + fl_m b then n_fL (fl_m a * 2 ^ (fl_e a - fl_e b) + fl_m b) (fl_e b) (53 + (fl_e a - fl_e b)) k else n_fL (fl_m a * 2 ^ (fl_e a - fl_e b) + fl_m b) (fl_e b) (52 + (fl_e a - fl_e b)) k) = _
  have w : 0 < 2 ^ (fl_e a - fl_e b) := Nat.two_pow_pos _
  have p2 : 2 ^ (52 + (fl_e a - fl_e b)) = 4503599627370496 * 2 ^ (fl_e a - fl_e b) := by rw [Nat.pow_add]
  have p3 : 2 ^ (53 + (fl_e a - fl_e b)) = 9007199254740992 * 2 ^ (fl_e a - fl_e b) := by rw [Nat.pow_add]
  have p4 : 2 ^ (53 + (fl_e a - fl_e b) + 1) = 2 * (9007199254740992 * 2 ^ (fl_e a - fl_e b)) := by rw [Nat.pow_succ, p3, Nat.mul_comm]
  have a1 := Nat.mul_le_mul_right (2 ^ (fl_e a - fl_e b)) m1.1
  have a2 := Nat.mul_lt_mul_of_pos_right m1.2 w
  have a3 := Nat.le_mul_of_pos_right 9007199254740992 w
  split
  · rename_i h
    exact n_fL_eq (log_eq h (by rw [p4]; omega)) _ k
  · rename_i h
    refine n_fL_eq (log_eq (by rw [p2]; omega) ?_) _ k
    rw [show 52 + (fl_e a - fl_e b) + 1 = 53 + (fl_e a - fl_e b) by omega]
    exact Nat.lt_of_not_le h
noncomputable def n_sub {α : Type} (a b : Nat) (k : Nat → α) : α := n_un a fun ma ea => n_un b fun mb eb => fc (Nat.sub (Nat.mul ma (Nat.pow 2 (Nat.sub ea eb))) mb) fun p => n_fin p eb k
theorem n_sub_eq {α : Type} (a b : Nat) (k : Nat → α) : n_sub a b k = k (fl_sub a b) := by
  unfold n_sub
  simp only [fc_eq, n_un_eq, n_fin_eq]
  rfl
noncomputable def n_div {α : Type} (a b : Nat) (k : Nat → α) : α := n_un a fun ma ea => n_un b fun mb eb => fb (Nat.ble (Nat.succ ma) mb)
  (fc (Nat.mul ma 9007199254740992) fun p => n_nr p mb fun c => fc (Nat.sub (Nat.add c (Nat.mul (Nat.sub (Nat.add ea 1022) eb) 4503599627370496)) 4503599627370496) k)
  (fc (Nat.mul ma 4503599627370496) fun p => n_nr p mb fun c => fc (Nat.sub (Nat.add c (Nat.mul (Nat.sub (Nat.add ea 1023) eb) 4503599627370496)) 4503599627370496) k)
theorem n_div_eq {α : Type} (a b : Nat) (k : Nat → α) : n_div a b k = k (fl_div a b) := by
  unfold n_div fl_div
  simp only [fc_eq, fb_eq, n_un_eq, n_nr_eq, Nat.ble_eq]
  split
  · rename_i h; rw [if_pos (show fl_m a < fl_m b from h)]; rfl
  · rename_i h; rw [if_neg (show ¬ fl_m a < fl_m b from h)]; rfl
/-- the number of eighths -/
def fl_x (e : Nat) : Nat := fl_div (fl_fin e 1075) 4620693217682128896
noncomputable def n_x {α : Type} (e : Nat) (k : Nat → α) : α := n_fin e 1075 fun y => n_div y 4620693217682128896 k
theorem n_x_eq {α : Type} (e : Nat) (k : Nat → α) : n_x e k = k (fl_x e) := by
  unfold n_x
  simp only [n_fin_eq, n_div_eq]
  rfl
def fl_t0 (x : Nat) : Nat := (x / 4294967296 / 3 + 715094163) * 4294967296
def fl_t2 (t : Nat) : Nat := (t / 4294967296 + 1) * 4294967296
def fl_dn (t r : Nat) : Nat := fl_add (fl_add t t) r
def fl_res (t r : Nat) : Nat := if r = t then t else if r < t then fl_sub t (fl_mul t (fl_div (fl_sub t r) (fl_dn t r))) else fl_add t (fl_mul t (fl_div (fl_sub r t) (fl_dn t r)))
noncomputable def okT (v : Nat) : Bool := fb (Nat.ble 4562146422526312448 v) (Nat.ble (Nat.succ v) 4841369599423283200) false
def fl_okT (n : Nat) : Prop := 4562146422526312448 ≤ n ∧ n < 4841369599423283200
theorem okT_iff (v : Nat) : okT v = true ↔ fl_okT v := by
  unfold okT fl_okT
  rw [fb_eq]
  split
  · rename_i h
    rw [Nat.ble_eq] at h ⊢
    exact ⟨fun q => ⟨h, q⟩, fun q => q.2⟩
  · rename_i h
    rw [Nat.ble_eq] at h
    exact ⟨fun q => Bool.noConfusion q, fun q => absurd q.1 h⟩
noncomputable def n_end (t r : Nat) (k : Nat → Bool) : Bool := gd (Nat.beq (Nat.div r 4503599627370496) (Nat.div t 4503599627370496)) (n_add t t fun w => gd (okB w) (n_add w r fun d => gd (okB d) (fb (Nat.beq r t) (k t) (fb (Nat.ble (Nat.succ r) t)
    (n_sub t r fun z => gd (okB z) (n_div z d fun q => gd (okB q) (n_mul t q fun u => gd (okB u) (gd (Nat.ble (Nat.succ (Nat.div u 4503599627370496)) (Nat.div t 4503599627370496)) (n_sub t u fun y => gd (okB y) (k y))))))
    (n_sub r t fun z => gd (okB z) (n_div z d fun q => gd (okB q) (n_mul t q fun u => gd (okB u) (gd (Nat.ble (Nat.div u 4503599627370496) (Nat.div t 4503599627370496)) (n_add t u fun y => gd (okB y) (k y))))))))))
noncomputable def n_ch (x : Nat) (k : Nat → Bool) : Bool := gd (okB x) (fc (Nat.mul (Nat.add (Nat.div (Nat.div x 4294967296) 3) 715094163) 4294967296) fun t0 => gd (okT t0) (
  n_mul t0 t0 fun a1 => gd (okB a1) (n_div a1 x fun a2 => gd (okB a2) (n_mul a2 t0 fun a3 => gd (okB a3) (gd (Nat.ble 4602678819172646912 a3) (
  n_add a3 4603064841997850097 fun s => gd (okB s) (gd (Nat.ble 4607182418800017408 s) (
  n_add s 4609048195788499471 fun w => gd (okB w) (n_div 4604528052325763124 s fun d => gd (okB d) (gd (Nat.ble (Nat.succ (Nat.div d 4503599627370496)) (Nat.div w 4503599627370496)) (
  n_sub w d fun w2 => gd (okB w2) (n_div 4609916747145206638 w2 fun g => gd (okB g) (gd (Nat.ble 4598175219545276416 g) (
  n_add g 4600105333671292343 fun h => gd (okB h) (n_mul t0 h fun t1 => gd (okB t1) (
  fc (Nat.mul (Nat.add (Nat.div t1 4294967296) 1) 4294967296) fun t2 => gd (okT t2) (
  n_mul t2 t2 fun s2 => gd (okB s2) (n_div x s2 fun r => gd (okB r) (n_end t2 r k)))))))))))))))))))
noncomputable def n_near (e r : Nat) : Bool := fc (Nat.div r 4503599627370496) fun k => gd (Nat.ble 1022 k) (gd (Nat.ble k 1027) (fc (Nat.add (Nat.mod r 4503599627370496) 4503599627370496) fun m => fc (Nat.pow 2 (Nat.sub 1074 k)) fun w => fc (Nat.mul e (Nat.mul (Nat.mul w w) w)) fun z =>
  gd (Nat.ble (Nat.succ (Nat.mul (Nat.mul (Nat.sub m 1) (Nat.sub m 1)) (Nat.sub m 1))) z) (Nat.ble (Nat.succ z) (Nat.mul (Nat.mul (Nat.add m 1) (Nat.add m 1)) (Nat.add m 1)))))
noncomputable def n_ok (e : Nat) : Bool := fb (Nat.ble e 0) true (n_x e fun x => n_ch x fun r => gd (n_near e r) (n_x (Nat.mul 8 e) fun y => n_ch y fun r8 => Nat.beq r8 (Nat.add r 4503599627370496)))
noncomputable def n_all (f : Nat → Bool) (d : Nat) : Nat → Bool := Nat.rec f (fun d ih s => gd (ih s) (fc (Nat.add s (Nat.pow 2 d)) ih)) d
theorem n_all_spec (f : Nat → Bool) : ∀ (d s : Nat), n_all f d s = true → ∀ e : Nat, s ≤ e → e < s + 2 ^ d → f e = true
  | 0, s => fun h e h1 h2 => by
    rw [show e = s by omega]
    exact h
  | d + 1, s => fun h e h1 h2 => by
    have h3 : gd (n_all f d s) (fc (Nat.add s (Nat.pow 2 d)) (n_all f d)) = true := h
    rw [gd_iff, fc_eq] at h3
    have h4 : 2 ^ (d + 1) = 2 ^ d * 2 := Nat.pow_succ 2 d
    by_cases q : e < s + 2 ^ d
    · exact n_all_spec f d s h3.1 e h1 q
    · exact n_all_spec f d (s + 2 ^ d) h3.2 e (by omega) (by omega)
def fl_R (a b : Nat) : Prop := ∀ e : Nat, a ≤ e → e < b → n_ok e = true
theorem fl_J {a b c : Nat} (h1 : fl_R a b) (h2 : fl_R b c) : fl_R a c := fun e q1 q2 => (Nat.lt_or_ge e b).elim (fun h => h1 e q1 h) (fun h => h2 e h q2)
theorem fl_L (s : Nat) (h : n_all n_ok 6 s = true) : fl_R s (s + 64) := fun e h1 h2 => n_all_spec n_ok 6 s h e h1 h2
/-! What the reckoning says of the doubles. -/
abbrev S64 (n : Nat) : UInt64 := fl_sg false n
theorem fl_okT_ok {n : Nat} (h : fl_okT n) : fl_ok n := by
  unfold fl_okT at h
  unfold fl_ok
  omega
theorem fl_ar5 {M E t U : Nat} (h : U ≤ M) (h3 : M + E * U - U = t) : M + (E + 1) * U - U = t + U := by
  rw [Nat.succ_mul]
  generalize E * U = X at *
  omega
theorem vf0 : vf_n64 0 := by
  unfold vf_n64
  decide
theorem fl_end {t r : Nat} {k : Nat → Bool} (ht : fl_ok t) (hr : fl_ok r) (h : n_end t r k = true) : ∃ n1 w d q u : UInt64, vf_n64 n1 ∧ FP.dsub (S64 r) (S64 t) = n1 ∧ vf_n64 w ∧ FP.dadd (S64 t) (S64 t) = w ∧ vf_n64 d ∧ FP.dadd w (S64 r) = d ∧ vf_n64 q ∧ FP.ddiv n1 d = q ∧ vf_n64 u ∧ FP.dmul (S64 t) q = u ∧ FP.dadd (S64 t) u = S64 (fl_res t r) ∧ fl_ok (fl_res t r) ∧ k (fl_res t r) = true := by
  unfold n_end at h
  simp only [n_add_eq, n_sub_eq, n_mul_eq, n_div_eq, gd_iff, fb_eq, okB_iff] at h
  obtain ⟨he, hw, hd, h⟩ := h
  have he : fl_e r = fl_e t := Nat.eq_of_beq_eq_true he
  have h1 := fl_oke ht
  have w2 : fl_e (fl_add t t) = fl_e (fl_add t t) := rfl
  have ew : fl_e r ≤ fl_e (fl_add t t) := by
    have a1 : fl_add t t = t + 4503599627370496 := by
      unfold fl_add
      have m1 := fl_mb t
      rw [Nat.sub_self, Nat.pow_zero, Nat.mul_one]
      have hl : (fl_m t + fl_m t).log2 = 53 := by
        have a := fl_log (p := fl_m t + fl_m t) (k := 53) (by omega) (by omega)
        have b : 53 ≤ (fl_m t + fl_m t).log2 := (Nat.le_log2 (by omega)).mpr (by omega)
        omega
      unfold fl_fin
      rw [if_pos (by omega), hl, show 2 ^ (53 - 52) = 2 from rfl, ← fl_near (by decide), ← Nat.mul_two, Jvm.FP.Core.nearest_exact _ (by decide)]
      rw [show fl_e t + 53 - 52 = fl_e t + 1 by omega]
      exact fl_ar5 m1.1 (fl_id t)
    rw [a1]
    unfold fl_e at he ⊢
    omega
  have e1 : FP.dadd (S64 t) (S64 t) = S64 (fl_add t t) := fl_dadd ht ht (Nat.le_refl _)
  have e2 : FP.dadd (S64 (fl_add t t)) (S64 r) = S64 (fl_add (fl_add t t) r) := fl_dadd hw hr ew
  by_cases q0 : Nat.beq r t = true
  · have q1 : r = t := Nat.eq_of_beq_eq_true q0
    subst q1
    rw [if_pos q0] at h
    have e0 : fl_res r r = r := by unfold fl_res; rw [if_pos rfl]
    rw [e0]
    exact ⟨0, S64 (fl_add r r), S64 (fl_add (fl_add r r) r), 0, 0, vf0, fl_dsub0 hr, fl_nn _ hw, e1, fl_nn _ hd, e2, vf0, fl_ddiv0 hd, vf0, fl_dmul0 hr, fl_dadd0 hr, hr, h⟩
  · rw [if_neg q0] at h
    have q1 : ¬ r = t := fun q => q0 (by rw [q]; exact Nat.beq_refl _)
    have pw : ∀ {a b : Nat}, fl_e b = fl_e a → 2 ^ (fl_e a - fl_e b) = 1 := fun {a b} q => by rw [q, Nat.sub_self]
    by_cases q2 : Nat.ble (Nat.succ r) t = true
    · rw [if_pos q2] at h
      simp only [gd_iff, okB_iff] at h
      obtain ⟨hz, hq, hu, hl, hy, h⟩ := h
      have q3 : r < t := Nat.le_of_ble_eq_true q2
      have hl : fl_e (fl_mul t (fl_div (fl_sub t r) (fl_add (fl_add t t) r))) < fl_e t := Nat.le_of_ble_eq_true hl
      have hres : fl_res t r = fl_sub t (fl_mul t (fl_div (fl_sub t r) (fl_add (fl_add t t) r))) := by
        unfold fl_res fl_dn
        rw [if_neg q1, if_pos q3]
      rw [hres]
      refine ⟨_, _, _, _, _, fl_nn true hz, fl_dsubN ht hr (by omega) ?_, fl_nn _ hw, e1, fl_nn _ hd, e2, fl_nn true hq, fl_ddiv true false hz hd, fl_nn true hu, fl_dmul false true ht hq, fl_dmin ht hu (by omega) ?_, hy, h⟩
      · rw [pw he, Nat.mul_one]
        unfold fl_m
        unfold fl_e at he
        omega
      · have m1 := fl_mb t
        have m2 := fl_mb (fl_mul t (fl_div (fl_sub t r) (fl_add (fl_add t t) r)))
        have : 2 ^ 1 ≤ 2 ^ (fl_e t - fl_e (fl_mul t (fl_div (fl_sub t r) (fl_add (fl_add t t) r)))) := Nat.pow_le_pow_right (by decide) (by omega)
        have := Nat.mul_le_mul m1.1 this
        omega
    · rw [if_neg q2] at h
      simp only [gd_iff, okB_iff] at h
      obtain ⟨hz, hq, hu, hl, hy, h⟩ := h
      have q3 : ¬ r < t := fun q => q2 (Nat.ble_eq_true_of_le q)
      have hl : fl_e (fl_mul t (fl_div (fl_sub r t) (fl_add (fl_add t t) r))) ≤ fl_e t := Nat.le_of_ble_eq_true hl
      have hres : fl_res t r = fl_add t (fl_mul t (fl_div (fl_sub r t) (fl_add (fl_add t t) r))) := by
        unfold fl_res fl_dn
        rw [if_neg q1, if_neg q3]
      rw [hres]
      refine ⟨_, _, _, _, _, fl_nn false hz, fl_dsub hr ht (by omega) ?_, fl_nn _ hw, e1, fl_nn _ hd, e2, fl_nn false hq, fl_ddiv false false hz hd, fl_nn false hu, fl_dmul false false ht hq, fl_dadd ht hu hl, hy, h⟩
      rw [pw he.symm, Nat.mul_one]
      unfold fl_m
      unfold fl_e at he
      omega
def v_1 (x : Nat) : Nat := fl_mul (fl_t0 x) (fl_t0 x)
def v_2 (x : Nat) : Nat := fl_div (v_1 x) x
def v_3 (x : Nat) : Nat := fl_mul (v_2 x) (fl_t0 x)
def v_s (x : Nat) : Nat := fl_add (v_3 x) 4603064841997850097
def v_w (x : Nat) : Nat := fl_add (v_s x) 4609048195788499471
def v_d (x : Nat) : Nat := fl_div 4604528052325763124 (v_s x)
def v_v (x : Nat) : Nat := fl_sub (v_w x) (v_d x)
def v_g (x : Nat) : Nat := fl_div 4609916747145206638 (v_v x)
def v_h (x : Nat) : Nat := fl_add (v_g x) 4600105333671292343
def v_5 (x : Nat) : Nat := fl_mul (fl_t0 x) (v_h x)
def v_6 (x : Nat) : Nat := fl_t2 (v_5 x)
def v_7 (x : Nat) : Nat := fl_mul (v_6 x) (v_6 x)
def v_8 (x : Nat) : Nat := fl_div x (v_7 x)
def v_9 (x : Nat) : Nat := fl_res (v_6 x) (v_8 x)
def fl_D (v : UInt64) (n : Nat) : Prop := v = S64 n ∧ vf_n64 v
theorem fl_D.of {v : UInt64} {n : Nat} (h : fl_ok n) (e : v = S64 n) : fl_D v n := ⟨e, by rw [e]; exact fl_nn false h⟩
theorem fl_ch {x : Nat} {k : Nat → Bool} (h : n_ch x k = true) : fl_ok x ∧ fl_okT (fl_t0 x) ∧ fl_ok (v_5 x) ∧ fl_okT (v_6 x) ∧
    fl_D (FP.dmul (S64 (fl_t0 x)) (S64 (fl_t0 x))) (v_1 x) ∧ fl_D (FP.ddiv (S64 (v_1 x)) (S64 x)) (v_2 x) ∧ fl_D (FP.dmul (S64 (v_2 x)) (S64 (fl_t0 x))) (v_3 x) ∧ fl_D (FP.dadd (S64 4603064841997850097) (S64 (v_3 x))) (v_s x) ∧
    fl_D (FP.dadd (S64 (v_s x)) (S64 4609048195788499471)) (v_w x) ∧ fl_D (FP.ddiv (S64 4604528052325763124) (S64 (v_s x))) (v_d x) ∧ fl_D (FP.dsub (S64 (v_w x)) (S64 (v_d x))) (v_v x) ∧ fl_D (FP.ddiv (S64 4609916747145206638) (S64 (v_v x))) (v_g x) ∧
    fl_D (FP.dadd (S64 4600105333671292343) (S64 (v_g x))) (v_h x) ∧ fl_D (FP.dmul (S64 (fl_t0 x)) (S64 (v_h x))) (v_5 x) ∧ fl_D (FP.dmul (S64 (v_6 x)) (S64 (v_6 x))) (v_7 x) ∧ fl_D (FP.ddiv (S64 x) (S64 (v_7 x))) (v_8 x) ∧
    ∃ n1 w d q u : UInt64, vf_n64 n1 ∧ FP.dsub (S64 (v_8 x)) (S64 (v_6 x)) = n1 ∧ vf_n64 w ∧ FP.dadd (S64 (v_6 x)) (S64 (v_6 x)) = w ∧ vf_n64 d ∧ FP.dadd w (S64 (v_8 x)) = d ∧ vf_n64 q ∧ FP.ddiv n1 d = q ∧ vf_n64 u ∧ FP.dmul (S64 (v_6 x)) q = u ∧ FP.dadd (S64 (v_6 x)) u = S64 (v_9 x) ∧ fl_ok (v_9 x) ∧ k (v_9 x) = true := by
  have h0 : gd (okB x) (gd (okT (fl_t0 x)) (gd (okB (v_1 x)) (gd (okB (v_2 x)) (gd (okB (v_3 x)) (gd (Nat.ble 4602678819172646912 (v_3 x)) (gd (okB (v_s x)) (gd (Nat.ble 4607182418800017408 (v_s x)) (gd (okB (v_w x)) (gd (okB (v_d x)) (gd (Nat.ble (Nat.succ (fl_e (v_d x))) (fl_e (v_w x))) (gd (okB (v_v x)) (gd (okB (v_g x)) (gd (Nat.ble 4598175219545276416 (v_g x)) (gd (okB (v_h x)) (gd (okB (v_5 x)) (gd (okT (v_6 x)) (gd (okB (v_7 x)) (gd (okB (v_8 x)) (n_end (v_6 x) (v_8 x) k))))))))))))))))))) = true := by
    unfold n_ch at h
    simp only [fc_eq, n_add_eq, n_sub_eq, n_mul_eq, n_div_eq] at h
    exact h
  simp only [gd_iff, okB_iff, okT_iff] at h0
  obtain ⟨hx, ht, h1, h2, h3, h3b, hs, hsb, hw, hd, hwd, hv, hg, hgb, hh, h5, h6, h7, h8, hend⟩ := h0
  have h3b : 4602678819172646912 ≤ v_3 x := Nat.le_of_ble_eq_true h3b
  have hsb : 4607182418800017408 ≤ v_s x := Nat.le_of_ble_eq_true hsb
  have hgb : 4598175219545276416 ≤ v_g x := Nat.le_of_ble_eq_true hgb
  have hwd : fl_e (v_d x) < fl_e (v_w x) := Nat.le_of_ble_eq_true hwd
  have ht' := fl_okT_ok ht
  have h6' := fl_okT_ok h6
  have c1 : fl_ok 4603064841997850097 := by unfold fl_ok; decide
  have c2 : fl_ok 4609048195788499471 := by unfold fl_ok; decide
  have c3 : fl_ok 4604528052325763124 := by unfold fl_ok; decide
  have c4 : fl_ok 4609916747145206638 := by unfold fl_ok; decide
  have c5 : fl_ok 4600105333671292343 := by unfold fl_ok; decide
  refine ⟨hx, ht, h5, h6, fl_D.of h1 (fl_dmul false false ht' ht'), fl_D.of h2 (fl_ddiv false false h1 hx), fl_D.of h3 (fl_dmul false false h2 ht'), fl_D.of hs ?_, fl_D.of hw (fl_dadd hs c2 ?_), fl_D.of hd (fl_ddiv false false c3 hs), fl_D.of hv (fl_dsub hw hd (by omega) ?_), fl_D.of hg (fl_ddiv false false c4 hv), fl_D.of hh ?_, fl_D.of h5 (fl_dmul false false ht' hh), fl_D.of h7 (fl_dmul false false h6' h6'), fl_D.of h8 (fl_ddiv false false hx h7), fl_end h6' h8 hend⟩
  · exact (Jvm.FP.Core.dadd_comm _ _).trans (fl_dadd h3 c1 (show fl_e 4603064841997850097 ≤ fl_e (v_3 x) by unfold fl_e; omega))
  · unfold fl_e; omega
  · have m1 := fl_mb (v_w x)
    have m2 := fl_mb (v_d x)
    have : 2 ^ 1 ≤ 2 ^ (fl_e (v_w x) - fl_e (v_d x)) := Nat.pow_le_pow_right (by decide) (by omega)
    have := Nat.mul_le_mul m1.1 this
    omega
  · exact (Jvm.FP.Core.dadd_comm _ _).trans (fl_dadd hg c5 (show fl_e 4600105333671292343 ≤ fl_e (v_g x) by unfold fl_e; omega))
/-- the edge's bits, of a number of eighths -/
def cbB (e0 : Nat) : Nat := v_9 (fl_x e0)
