/-! ===== THE PURE LAYER: what the document's operations are, in machine words ===== -/
def tk_in (x : Int64) : Bool := decide (-1000000000 ≤ x) && decide (x ≤ 1000000000)
theorem tk_in_t {x : Int64} (h1 : ¬ x < -1000000000) (h2 : ¬ 1000000000 < x) : tk_in x = true := by
  unfold tk_in
  rw [decide_eq_true (Int64.not_lt.mp h1), decide_eq_true (Int64.not_lt.mp h2)]
  rfl
theorem tk_in_f1 {x : Int64} (h : x < -1000000000) : tk_in x = false := by
  unfold tk_in
  rw [decide_eq_false (fun z => absurd h (Int64.not_lt.mpr z))]
  rfl
theorem tk_in_f2 {x : Int64} (h : 1000000000 < x) : tk_in x = false := by
  unfold tk_in
  rw [decide_eq_false (p := x ≤ 1000000000) (fun z => absurd h (Int64.not_lt.mpr z)), Bool.and_false]
abbrev tk_rng (lo hi v : Int32) : Prop := lo ≤ v ∧ v ≤ hi
/-- the quotient, rounded down (for a divisor above 0) -/
def tk_dn (a b : Int64) : Int64 := if a - a / b * b < 0 then a / b - 1 else a / b
def tk_mul (a b : Int64) : Int64 := tk_dn (a * b + 2048) 4096
def tk_div (a b : Int64) : Int64 := tk_dn (a * 4096 + tk_dn b 2) b
def tk_h (h v : Int64) : Int64 := 31 * h + v
def tk_pos (a : Int64) : Int64 := if 0 < a then a else 0
theorem tk_pos_n {a : Int64} (h : a < 0) : tk_pos a = 0 := by
  have h2 : ¬ 0 < a := by
    rw [Int64.lt_iff_toInt_lt] at h ⊢
    omega
  simp [tk_pos, h2]
theorem tk_pos_p {a : Int64} (h : ¬ a < 0) : tk_pos a = a := by
  by_cases h2 : 0 < a
  · simp [tk_pos, h2]
  · have h3 : a = 0 := by
      apply Int64.toInt_inj.mp
      rw [Int64.lt_iff_toInt_lt] at h h2
      have : (0 : Int64).toInt = 0 := rfl
      omega
    simp [tk_pos, h3]
theorem tk_rem (x y : Int64) (hy : 0 < y) : (x - x / y * y).toInt = x.toInt.tmod y.toInt := by
  have h0 : (0 : Int64).toInt = 0 := rfl
  have hy' : 0 < y.toInt := by rw [Int64.lt_iff_toInt_lt] at hy; omega
  have hx1 := Int64.le_toInt x
  have hx2 := Int64.toInt_lt x
  have hy2 := Int64.toInt_lt y
  have hne : y ≠ -1 := fun z => by subst z; exact absurd hy (by decide)
  have e1 : (x - x / y * y).toInt = (x.toInt - x.toInt.tdiv y.toInt * y.toInt).bmod (2 ^ 64) := by
    rw [Int64.toInt_sub, Int64.toInt_mul, Int64.toInt_div_of_ne_right _ _ hne]
    simp only [Int.sub_bmod_bmod]
  have e2 : x.toInt - x.toInt.tdiv y.toInt * y.toInt = x.toInt.tmod y.toInt := by
    have := Int.tdiv_mul_add_tmod x.toInt y.toInt
    omega
  rw [e1, e2]
  have b1 : x.toInt.tmod y.toInt < y.toInt := Int.tmod_lt_of_pos _ hy'
  have b2 : -y.toInt < x.toInt.tmod y.toInt := by
    have h1 := Int.tmod_lt_of_pos (-x.toInt) hy'
    rw [Int.neg_tmod] at h1
    omega
  apply Int.bmod_eq_of_le_mul_two <;> omega
theorem tk_dn_p {x y : Int64} (hy : 0 < y) (hx : 0 ≤ x) : tk_dn x y = x / y := by
  have h0 : (0 : Int64).toInt = 0 := rfl
  have h : ¬ (x - x / y * y < 0) := by
    rw [Int64.lt_iff_toInt_lt, tk_rem x y hy]
    rw [Int64.le_iff_toInt_le] at hx
    have := Int.tmod_nonneg y.toInt (a := x.toInt) (by omega)
    omega
  simp [tk_dn, h]
theorem tk_xor {x y : Int64} (hy : 0 < y) : x ^^^ y < 0 ↔ x < 0 := by
  have h0 : (0 : Int64).toInt = 0 := rfl
  have hz : ∀ z : Int64, z < 0 ↔ z.toBitVec.msb = true := by
    intro z
    rw [Int64.lt_iff_toInt_lt, h0, BitVec.msb_eq_toInt]
    exact (decide_eq_true_iff (p := z.toBitVec.toInt < 0)).symm
  have hy' : y.toBitVec.msb = false := by
    have : ¬ y < 0 := by rw [Int64.lt_iff_toInt_lt] at hy ⊢; omega
    rw [hz] at this
    simpa using this
  rw [hz, hz, Int64.toBitVec_xor, BitVec.msb_xor, hy', Bool.xor_false]
theorem tk_fd_a {x y : Int64} (hy : 0 < y) (h : 0 ≤ x ^^^ y) : x / y = tk_dn x y := by
  have h2 : ¬ x < 0 := fun z => by
    have := (tk_xor hy).mpr z
    rw [Int64.lt_iff_toInt_lt] at this
    rw [Int64.le_iff_toInt_le] at h
    omega
  exact (tk_dn_p hy (by rw [Int64.lt_iff_toInt_lt] at h2; rw [Int64.le_iff_toInt_le]; omega)).symm
theorem tk_fd_b {x y : Int64} (h : x / y * y = x) : x / y = tk_dn x y := by
  have h2 : x - x / y * y = 0 := by rw [h]; simp
  have h3 : ¬ (0 : Int64) < 0 := by decide
  simp [tk_dn, h2, h3]
theorem tk_fd_c {x y : Int64} (hy : 0 < y) (h : x ^^^ y < 0) (hn : ¬ x / y * y = x) : x / y - 1 = tk_dn x y := by
  have h0 : (0 : Int64).toInt = 0 := rfl
  have hx := (tk_xor hy).mp h
  have h1 : x - x / y * y < 0 := by
    rw [Int64.lt_iff_toInt_lt, tk_rem x y hy]
    rw [Int64.lt_iff_toInt_lt] at hx
    have a1 : x.toInt.tmod y.toInt ≤ 0 := by
      have := Int.tmod_nonneg y.toInt (a := -x.toInt) (by omega)
      rw [Int.neg_tmod] at this
      omega
    have a2 : x.toInt.tmod y.toInt ≠ 0 := by
      intro z
      apply hn
      have z2 : (x - x / y * y).toInt = (0 : Int64).toInt := by rw [tk_rem x y hy, z, h0]
      have z3 := Int64.toInt_inj.mp z2
      have z4 : x - x / y * y + x / y * y = x / y * y := by rw [z3]; simp
      rw [Int64.sub_add_cancel] at z4
      exact z4.symm
    omega
  simp [tk_dn, h1]
-- a prediction, a correction, on e 0 .. e 7: level, flow, the three covariances, innovation, gains
def tk_mok (x v a b c : Int64) : Bool := tk_in x && tk_in v && tk_in (tk_pos a) && tk_in b && tk_in (tk_pos c)
def tk_mv (e : Nat → Int64) (x v a b c : Int64) : Nat → Int64 := fun k => match k with
  | 0 => x
  | 1 => v
  | 2 => tk_pos a
  | 3 => b
  | 4 => tk_pos c
  | k => e k
def tk_yk (e : Nat → Int64) (y k l : Int64) : Nat → Int64 := fun j => match j with
  | 5 => y
  | 6 => k
  | 7 => l
  | j => e j
def tk_y (e : Nat → Int64) (y : Int64) : Nat → Int64 := fun j => match j with
  | 5 => y
  | j => e j
def ad_ok (e : Nat → Int64) (u q w : Int64) : Bool := tk_mok (e 0 + e 1 + u) (e 1) (e 2 + 2 * e 3 + e 4 + q) (e 3 + e 4) (e 4 + w)
def ad_e (e : Nat → Int64) (u q w : Int64) : Nat → Int64 := tk_mv e (e 0 + e 1 + u) (e 1) (e 2 + 2 * e 3 + e 4 + q) (e 3 + e 4) (e 4 + w)
def co_m (e : Nat → Int64) (kd : Int32) : Int64 := if kd = 0 then e 0 else e 1
def co_p (e : Nat → Int64) (kd : Int32) : Int64 := if kd = 0 then e 2 else e 4
def cq_rej (p m z r g : Int64) : Prop := g ≠ 0 ∧ g * (p + r) * 4096 < (z - m) * (z - m)
def cq_ok (e : Nat → Int64) (h i p m z r : Int64) : Bool := tk_in (tk_div h (p + r)) && tk_in (tk_div i (p + r)) && tk_mok (e 0 + tk_mul (tk_div h (p + r)) (z - m)) (e 1 + tk_mul (tk_div i (p + r)) (z - m)) (e 2 - tk_mul (tk_div h (p + r)) h) (e 3 - tk_mul (tk_div h (p + r)) i) (e 4 - tk_mul (tk_div i (p + r)) i)
def cq_e (e : Nat → Int64) (h i p m z r : Int64) : Nat → Int64 := tk_yk (tk_mv e (e 0 + tk_mul (tk_div h (p + r)) (z - m)) (e 1 + tk_mul (tk_div i (p + r)) (z - m)) (e 2 - tk_mul (tk_div h (p + r)) h) (e 3 - tk_mul (tk_div h (p + r)) i) (e 4 - tk_mul (tk_div i (p + r)) i)) (z - m) (tk_div h (p + r)) (tk_div i (p + r))
def co_rej (e : Nat → Int64) (kd : Int32) (z r g : Int64) : Prop := cq_rej (co_p e kd) (co_m e kd) z r g
def co_ok (e : Nat → Int64) (kd : Int32) (z r : Int64) : Bool := if kd = 0 then cq_ok e (e 2) (e 3) (e 2) (e 0) z r else cq_ok e (e 3) (e 4) (e 4) (e 1) z r
def co_e (e : Nat → Int64) (kd : Int32) (z r : Int64) : Nat → Int64 := if kd = 0 then cq_e e (e 2) (e 3) (e 2) (e 0) z r else cq_e e (e 3) (e 4) (e 4) (e 1) z r
theorem co_m0 {e : Nat → Int64} {kd : Int32} (h : kd = 0) : co_m e kd = e 0 := if_pos h
theorem co_m1 {e : Nat → Int64} {kd : Int32} (h : ¬ kd = 0) : co_m e kd = e 1 := if_neg h
theorem co_p0 {e : Nat → Int64} {kd : Int32} (h : kd = 0) : co_p e kd = e 2 := if_pos h
theorem co_p1 {e : Nat → Int64} {kd : Int32} (h : ¬ kd = 0) : co_p e kd = e 4 := if_neg h
theorem co_ok0 {e : Nat → Int64} {kd : Int32} {z r : Int64} (h : kd = 0) : co_ok e kd z r = cq_ok e (e 2) (e 3) (e 2) (e 0) z r := if_pos h
theorem co_ok1 {e : Nat → Int64} {kd : Int32} {z r : Int64} (h : ¬ kd = 0) : co_ok e kd z r = cq_ok e (e 3) (e 4) (e 4) (e 1) z r := if_neg h
theorem co_e0 {e : Nat → Int64} {kd : Int32} {z r : Int64} (h : kd = 0) : co_e e kd z r = cq_e e (e 2) (e 3) (e 2) (e 0) z r := if_pos h
theorem co_e1 {e : Nat → Int64} {kd : Int32} {z r : Int64} (h : ¬ kd = 0) : co_e e kd z r = cq_e e (e 3) (e 4) (e 4) (e 1) z r := if_neg h
theorem co_rej0 {e : Nat → Int64} {kd : Int32} {z r g : Int64} (h : kd = 0) : co_rej e kd z r g ↔ cq_rej (e 2) (e 0) z r g := by rw [co_rej, co_p0 h, co_m0 h]
theorem co_rej1 {e : Nat → Int64} {kd : Int32} {z r g : Int64} (h : ¬ kd = 0) : co_rej e kd z r g ↔ cq_rej (e 4) (e 1) z r g := by rw [co_rej, co_p1 h, co_m1 h]
theorem cq_rej_t {p m z r g : Int64} (h1 : ¬ g = 0) (h2 : ¬ (z - m) * (z - m) ≤ g * (p + r) * 4096) : cq_rej p m z r g := ⟨h1, Int64.not_le.mp h2⟩
theorem cq_rej_1 {p m z r g : Int64} (h1 : g = 0) : ¬ cq_rej p m z r g := fun z => z.1 h1
theorem cq_rej_2 {p m z r g : Int64} (h2 : (z - m) * (z - m) ≤ g * (p + r) * 4096) : ¬ cq_rej p m z r g := fun z => Int64.not_lt.mpr h2 z.2
theorem tk_yk_ev (M : Nat → Int64) (y k l : Int64) : tk_ev (tk_yk M y k l) = [.long (M 0), .long (M 1), .long (M 2), .long (M 3), .long (M 4), .long y, .long k, .long l] := rfl
theorem tk_y_ev (e : Nat → Int64) (y : Int64) : tk_ev (tk_y e y) = [.long (e 0), .long (e 1), .long (e 2), .long (e 3), .long (e 4), .long y, .long (e 6), .long (e 7)] := rfl
theorem tk_mv_ev (e : Nat → Int64) (x v a b c : Int64) : tk_ev (tk_mv e x v a b c) = [.long x, .long v, .long (tk_pos a), .long b, .long (tk_pos c), .long (e 5), .long (e 6), .long (e 7)] := rfl
