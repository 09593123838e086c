/-! Edges: the cube root's steps on doubles, and what is known of its answer. -/
def q_x (e0 : Nat) : UInt64 := FP.ddiv (FP.i2d (nI e0)) 4620693217682128896
def q_hi (x : UInt64) : UInt64 := x >>> 32
def q_t0 (x : UInt64) : UInt64 := (q_hi x / 3 + 715094163) <<< 32
def q_s (x t : UInt64) : UInt64 := FP.dadd 4603064841997850097 (FP.dmul (FP.ddiv (FP.dmul t t) x) t)
def q_t1 (t s : UInt64) : UInt64 := FP.dmul t (FP.dadd 4600105333671292343 (FP.ddiv 4609916747145206638 (FP.dsub (FP.dadd s 4609048195788499471) (FP.ddiv 4604528052325763124 s))))
def q_t2 (t : UInt64) : UInt64 := (q_hi t + 1) <<< 32
def q_r (x t : UInt64) : UInt64 := FP.ddiv x (FP.dmul t t)
def q_f (t r : UInt64) : UInt64 := FP.dadd t (FP.dmul t (FP.ddiv (FP.dsub r t) (FP.dadd (FP.dadd t t) r)))
def q_cb (e0 : Nat) : UInt64 := q_f (q_t2 (q_t1 (q_t0 (q_x e0)) (q_s (q_x e0) (q_t0 (q_x e0))))) (q_r (q_x e0) (q_t2 (q_t1 (q_t0 (q_x e0)) (q_s (q_x e0) (q_t0 (q_x e0))))))
def cbB (e0 : Nat) : Nat := (q_cb e0).toNat
def vol (e0 : Nat) : Prop := 0 < e0 ∧ e0 ≤ 524280 ∧ (e0 ≤ 65535 ∨ e0 % 8 = 0)
def kb (e0 : Nat) : Nat := cbB e0 / 2 ^ 52
def mt (e0 : Nat) : Nat := cbB e0 % 2 ^ 52 + 2 ^ 52
/-- part (3), in whole numbers -/
theorem cb_near {e0 : Nat} (h : vol e0) : 1022 ≤ kb e0 ∧ kb e0 ≤ 1028 ∧ (mt e0 - 1) * (mt e0 - 1) * (mt e0 - 1) < e0 * (2 ^ (1074 - kb e0) * 2 ^ (1074 - kb e0) * 2 ^ (1074 - kb e0)) ∧ e0 * (2 ^ (1074 - kb e0) * 2 ^ (1074 - kb e0) * 2 ^ (1074 - kb e0)) < (mt e0 + 1) * (mt e0 + 1) * (mt e0 + 1) := sorry
/-- part (2) -/
theorem cb_8 {e0 : Nat} (h : vol e0) (h8 : vol (8 * e0)) : cbB (8 * e0) = cbB e0 + 2 ^ 52 := sorry
def ebits (v : Nat) : Nat := (if eig v = 0 then 0 else cbB (eig v)) + (if isB v = true then 2 ^ 63 else 0)
def edge (v : Nat) : Int64 := lN (ebits v)
theorem c_ofVolume (l : Launch) (v : Nat) (hv : v < 262144) : Pm l yX2_ofVolume cX2_ofVolume 4 (some FieldType.long) 3 [.int (nI v)] (some (.long (edge v))) := sorry
def sgN (v : Nat) : Int := if isB v = true then -(eig v : Int) else (eig v : Int)
def ltB (v w : Nat) : Bool := decide (sgN v < sgN w)
def sgB (b : Bool) : Int64 := if b = true then (-9223372036854775808) else 0
def btR (b : Bool) (r : Nat) : Int64 := (sgB b ||| zlshl (lN (1023 + r.log2 - 1)) 52) ||| (zlshl (lN r) (nI (52 - r.log2)) &&& 4503599627370495)
def btL (b : Bool) (r : Nat) : Int64 := if r = 0 then sgB b else btR b r
theorem ed_fine {v : Nat} (hv : v < 262144) : m_X2_fineOf (edge v) = fI v := sorry
theorem ed_abs {v : Nat} (hv : v < 262144) : m_X2_fineOf (m_X2_withoutSign (edge v)) = nI (fN (eig v)) := sorry
theorem ed_half {v : Nat} (hv : v < 262144) : m_X2_isHalves (edge v) = exB (eig v) := sorry
theorem ed_less {v w : Nat} (hv : v < 262144) (hw : w < 262144) : m_X2_isLess (edge v) (edge w) = ltB v w := sorry
theorem ed_opp {v : Nat} (hv : v < 262144) : m_X3_isOpposite (edge v) (edge (oppN v)) = true := sorry
theorem ed_e8 {v : Nat} (hv : v < 262144) (h : eig v ≤ 65535) : m_X3_isTwice (edge v) (edge (e8N v)) = true := sorry
theorem ed_d8 {v : Nat} (hv : v < 262144) (h : eig v % 8 = 0) : m_X3_isTwice (edge (d8N v)) (edge v) = true := sorry
theorem ed_bits {v : Nat} (hv : v < 262144) (h : exB (eig v) = true) : edge v = btL (isB v) (rt (eig v)) := sorry
theorem ed_zero {v : Nat} (h : eig v = 0) : edge v = sgB (isB v) := sorry
theorem ed_isZero {v : Nat} (hv : v < 262144) : m_X2_isZero (edge v) = decide (eig v = 0) := sorry
theorem ed_lts {v w : Nat} (hv : v < 262144) (hw : w < 262144) (b1 : isB v = false) (b2 : isB w = false) (c1 : 0 < v / 4) (c2 : 0 < w / 4) (h : rdC (eig v + eig w) ≤ 65535) : m_X3_isLessThanSum (edge (rdV (eig v + eig w) false)) (edge v) (edge w) = true := sorry
theorem ed_isfine {v : Nat} (hv : v < 262144) : m_X3_isFine (nI (eig v)) (m_X2_withoutSign (edge v)) = true := sorry
theorem ed_ord {v w : Nat} (hv : v < 262144) (hw : w < 262144) : m_X3_isOrdered (nI v) (edge v) (nI w) (edge w) = true := sorry
theorem ed_scale {v : Nat} (hv : v < 262144) (h : 0 < eig v) : m_X0_scaleOf (edge v) = -(nI (1075 - kb (eig v))) := sorry
theorem ed_mant {v : Nat} (hv : v < 262144) (h : 0 < eig v) : m_X0_mantissaOf (edge v) = lN (mt (eig v)) := sorry
theorem ed_vol {v : Nat} (hv : v < 262144) (h : 0 < eig v) : vol (eig v) := sorry
/-- the cube of a whole edge: its volume, and that its edge is that -/
theorem c_isRootOfItsCube (l : Launch) (v : Nat) (hv : v < 262144) : Pm l yX3_isRootOfItsCube cX3_isRootOfItsCube 5 (some FieldType.boolean) 4 [.int (fI v / 1024)] (some (.int (bI true))) := sorry
/-- part (6): the exact product and the edge of the product, in whole numbers -/
theorem cb_prod {a b : Nat} (ha : vol a) (hb : vol b) (h8 : a * b % 8 = 0) (hv : vol (a * b / 8)) : kb a + kb b ≤ kb (a * b / 8) + 1075 ∧ kb (a * b / 8) + 1075 - kb a - kb b < 60 ∧
    (mt a * mt b - mt (a * b / 8) * 2 ^ (kb (a * b / 8) + 1075 - kb a - kb b) + (mt (a * b / 8) * 2 ^ (kb (a * b / 8) + 1075 - kb a - kb b) - mt a * mt b)) * 2 ^ 50 < mt (a * b / 8) * 2 ^ (kb (a * b / 8) + 1075 - kb a - kb b) := sorry
