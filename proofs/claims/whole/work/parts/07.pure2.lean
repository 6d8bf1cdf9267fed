/-! ===== forecasts, cycles, replays: what they come to ===== -/
abbrev tk_iv (e : Nat → Int64) : Prop := (0 ≤ e 2 ∧ e 2 ≤ 1000000000) ∧ (0 ≤ e 4 ∧ e 4 ≤ 1000000000)
theorem tk_in_le {x : Int64} (h : tk_in x = true) : -1000000000 ≤ x ∧ x ≤ 1000000000 := by
  simp only [tk_in, Bool.and_eq_true, decide_eq_true_eq] at h
  exact h
theorem tk_pos_0 (a : Int64) : 0 ≤ tk_pos a := by
  by_cases h : 0 < a
  · rw [tk_pos, if_pos h]
    exact Int64.not_lt.mp (fun z => by rw [Int64.lt_iff_toInt_lt] at h z; omega)
  · rw [tk_pos, if_neg h]
    decide
theorem tk_mok_spec {x v a b c : Int64} (h : tk_mok x v a b c = true) : tk_in x = true ∧ tk_in v = true ∧ tk_in (tk_pos a) = true ∧ tk_in b = true ∧ tk_in (tk_pos c) = true := by
  simp only [tk_mok, Bool.and_eq_true] at h
  exact ⟨h.1.1.1.1, h.1.1.1.2, h.1.1.2, h.1.2, h.2⟩
theorem tk_iv_mv {e : Nat → Int64} {x v a b c : Int64} (h : tk_mok x v a b c = true) : tk_iv (tk_mv e x v a b c) := by
  obtain ⟨h1, h2, h3, h4, h5⟩ := tk_mok_spec h
  exact ⟨⟨tk_pos_0 a, (tk_in_le h3).2⟩, ⟨tk_pos_0 c, (tk_in_le h5).2⟩⟩
theorem tk_iv_ad {e : Nat → Int64} {u q w : Int64} (h : ad_ok e u q w = true) : tk_iv (ad_e e u q w) := tk_iv_mv h
theorem co_ok_mok {e : Nat → Int64} {h i p m z r : Int64} (k : cq_ok e h i p m z r = true) : tk_mok (e 0 + tk_mul (tk_div h (p + r)) (z - m)) (e 1 + tk_mul (tk_div i (p + r)) (z - m)) (e 2 - tk_mul (tk_div h (p + r)) h) (e 3 - tk_mul (tk_div h (p + r)) i) (e 4 - tk_mul (tk_div i (p + r)) i) = true := by
  rw [cq_ok, Bool.and_eq_true] at k
  exact k.2
theorem tk_iv_cq {e : Nat → Int64} {h i p m z r : Int64} (k : cq_ok e h i p m z r = true) : tk_iv (cq_e e h i p m z r) := tk_iv_mv (e := e) (co_ok_mok k)
theorem tk_iv_co {e : Nat → Int64} {kd : Int32} {z r : Int64} (k : co_ok e kd z r = true) : tk_iv (co_e e kd z r) := by
  by_cases h : kd = 0
  · rw [co_ok0 h] at k
    rw [co_e0 h]
    exact tk_iv_cq k
  · rw [co_ok1 h] at k
    rw [co_e1 h]
    exact tk_iv_cq k
theorem tk_sp1 {a b : Int64} (h1 : 0 ≤ a) (h2 : a ≤ 1000000000) (h3 : 1 ≤ b) (h4 : b ≤ 40960000) : 0 < a + b := by
  rw [Int64.le_iff_toInt_le] at h1 h2 h3 h4
  rw [Int64.lt_iff_toInt_lt, Int64.toInt_add]
  have e0 : (0 : Int64).toInt = 0 := rfl
  have e1 : (1 : Int64).toInt = 1 := rfl
  have e2 : (1000000000 : Int64).toInt = 1000000000 := by decide
  have e3 : (40960000 : Int64).toInt = 40960000 := by decide
  rw [Int.bmod_eq_of_le_mul_two] <;> omega
abbrev tk_rv (v : Int32) : Prop := 1 ≤ v ∧ v ≤ 40960000
theorem tk_rv_l {v : Int32} (h : tk_rv v) : 1 ≤ v.toInt64 ∧ v.toInt64 ≤ 40960000 := by
  obtain ⟨h1, h2⟩ := h
  rw [Int32.le_iff_toInt_le] at h1 h2
  rw [Int64.le_iff_toInt_le, Int64.le_iff_toInt_le, Int32.toInt_toInt64]
  have e1 : (1 : Int64).toInt = 1 := rfl
  have e3 : (40960000 : Int64).toInt = 40960000 := by decide
  have e5 : (1 : Int32).toInt = 1 := rfl
  have e6 : (40960000 : Int32).toInt = 40960000 := by decide
  omega
theorem tk_sp {e : Nat → Int64} {kd v : Int32} (h : tk_iv e) (hv : tk_rv v) : 0 < co_p e kd + v.toInt64 := by
  obtain ⟨a1, a2⟩ := tk_rv_l hv
  by_cases k : kd = 0
  · rw [co_p0 k]
    exact tk_sp1 h.1.1 h.1.2 a1 a2
  · rw [co_p1 k]
    exact tk_sp1 h.2.1 h.2.2 a1 a2
def ad_n (q w : Int64) : Nat → (Nat → Int64) → Option (Nat → Int64)
  | 0, e => some e
  | n + 1, e => if ad_ok e 0 q w = true then ad_n q w n (ad_e e 0 q w) else none
theorem ad_n_t {q w : Int64} {k : Nat} {e : Nat → Int64} (h : ad_ok e 0 q w = true) (hk : 0 < k) : ad_n q w k e = ad_n q w (k - 1) (ad_e e 0 q w) := by
  obtain ⟨j, rfl⟩ : ∃ j, k = j + 1 := ⟨k - 1, by omega⟩
  rw [ad_n, if_pos h]
  rfl
theorem ad_n_f {q w : Int64} {k : Nat} {e : Nat → Int64} (h : ad_ok e 0 q w = false) (hk : 0 < k) : ad_n q w k e = none := by
  obtain ⟨j, rfl⟩ : ∃ j, k = j + 1 := ⟨k - 1, by omega⟩
  rw [ad_n, if_neg (by rw [h]; decide)]
def st_rch (up : Bool) (x t : Int64) : Bool := if up = true then decide (t ≤ x) else decide (x ≤ t)
def st_go (q w : Int64) (up : Bool) (t : Int64) : Nat → Nat → (Nat → Int64) → Int32
  | 0, _, _ => -2000000001
  | k + 1, i, e => if st_rch up (e 0) t = true then nI i else if ad_ok e 0 q w = true then st_go q w up t k (i + 1) (ad_e e 0 q w) else -2000000001
theorem st_go_r {q w t : Int64} {up : Bool} {k i : Nat} {e : Nat → Int64} (h : st_rch up (e 0) t = true) (hk : 0 < k) : st_go q w up t k i e = nI i := by
  obtain ⟨j, rfl⟩ : ∃ j, k = j + 1 := ⟨k - 1, by omega⟩
  rw [st_go, if_pos h]
theorem st_go_t {q w t : Int64} {up : Bool} {k i : Nat} {e : Nat → Int64} (h : st_rch up (e 0) t = false) (h2 : ad_ok e 0 q w = true) (hk : 0 < k) : st_go q w up t k i e = st_go q w up t (k - 1) (i + 1) (ad_e e 0 q w) := by
  obtain ⟨j, rfl⟩ : ∃ j, k = j + 1 := ⟨k - 1, by omega⟩
  rw [st_go, if_neg (by rw [h]; decide), if_pos h2]
  rfl
theorem st_go_f {q w t : Int64} {up : Bool} {k i : Nat} {e : Nat → Int64} (h : st_rch up (e 0) t = false) (h2 : ad_ok e 0 q w = false) (hk : 0 < k) : st_go q w up t k i e = -2000000001 := by
  obtain ⟨j, rfl⟩ : ∃ j, k = j + 1 := ⟨k - 1, by omega⟩
  rw [st_go, if_neg (by rw [h]; decide), if_neg (by rw [h2]; decide)]
theorem st_rch_ut {x t : Int64} (h : t ≤ x) : st_rch true x t = true := by rw [st_rch, if_pos rfl, decide_eq_true h]
theorem st_rch_uf {x t : Int64} (h : x < t) : st_rch true x t = false := by rw [st_rch, if_pos rfl, decide_eq_false (Int64.not_le.mpr h)]
theorem st_rch_dt {x t : Int64} (h : x ≤ t) : st_rch false x t = true := by rw [st_rch, if_neg (by decide), decide_eq_true h]
theorem st_rch_df {x t : Int64} (h : t < x) : st_rch false x t = false := by rw [st_rch, if_neg (by decide), decide_eq_false (Int64.not_le.mpr h)]
/-- a cycle's two steps: it goes, and what comes of it -/
def cy_ok (q w v : Int64) (kd : Int32) (e : Nat → Int64) : Bool := ad_ok e 0 q w && co_ok (ad_e e 0 q w) kd (co_m (ad_e e 0 q w) kd) v
def cy_e (q w v : Int64) (kd : Int32) (e : Nat → Int64) : Nat → Int64 := co_e (ad_e e 0 q w) kd (co_m (ad_e e 0 q w) kd) v
abbrev cy_eq (e f : Nat → Int64) : Prop := f 2 = e 2 ∧ f 3 = e 3 ∧ f 4 = e 4
def cy_go (q w v : Int64) (kd : Int32) : Nat → Nat → (Nat → Int64) → Int32 × (Nat → Int64)
  | 0, _, e => (-2000000001, e)
  | k + 1, i, e => if cy_ok q w v kd e = true then (if cy_eq e (cy_e q w v kd e) then (nI i, cy_e q w v kd e) else cy_go q w v kd k (i + 1) (cy_e q w v kd e)) else (-2000000001, e)
theorem cy_go_s {q w v : Int64} {kd : Int32} {k i : Nat} {e : Nat → Int64} (h : cy_ok q w v kd e = true) (h2 : cy_eq e (cy_e q w v kd e)) (hk : 0 < k) : cy_go q w v kd k i e = (nI i, cy_e q w v kd e) := by
  obtain ⟨j, rfl⟩ : ∃ j, k = j + 1 := ⟨k - 1, by omega⟩
  rw [cy_go, if_pos h, if_pos h2]
theorem cy_go_t {q w v : Int64} {kd : Int32} {k i : Nat} {e : Nat → Int64} (h : cy_ok q w v kd e = true) (h2 : ¬ cy_eq e (cy_e q w v kd e)) (hk : 0 < k) : cy_go q w v kd k i e = cy_go q w v kd (k - 1) (i + 1) (cy_e q w v kd e) := by
  obtain ⟨j, rfl⟩ : ∃ j, k = j + 1 := ⟨k - 1, by omega⟩
  rw [cy_go, if_pos h, if_neg h2]
  rfl
theorem cy_go_f {q w v : Int64} {kd : Int32} {k i : Nat} {e : Nat → Int64} (h : cy_ok q w v kd e = false) (hk : 0 < k) : (cy_go q w v kd k i e).1 = -2000000001 := by
  obtain ⟨j, rfl⟩ : ∃ j, k = j + 1 := ⟨k - 1, by omega⟩
  rw [cy_go, if_neg (by rw [h]; decide)]
theorem cy_rej0 {e : Nat → Int64} {kd : Int32} {z v : Int64} : ¬ co_rej e kd z v 0 := fun h => h.1 rfl
def tk_abs (x : Int64) : Int64 := if 0 < x then x else -x
/-- the replay, from its entry i on, k entries left -/
def rp_go (K V S G : Nat → Int32) (q w : Int64) : Nat → Nat → (Nat → Int64) → Int64 → Option Int64
  | 0, _, _, sum => some sum
  | k + 1, i, e, sum => if tk_rng 0 3 (S i) then (if co_ok e (K (S i).toNatClampNeg) (G i).toInt64 (V (S i).toNatClampNeg).toInt64 = true then rp_go K V S G q w k (i + 1) (co_e e (K (S i).toNatClampNeg) (G i).toInt64 (V (S i).toNatClampNeg).toInt64) (sum + tk_abs ((G i).toInt64 - co_m e (K (S i).toNatClampNeg))) else none) else (if ad_ok e (G i).toInt64 q w = true then rp_go K V S G q w k (i + 1) (ad_e e (G i).toInt64 q w) sum else none)
theorem rp_go_ct {K V S G : Nat → Int32} {q w sum : Int64} {k i : Nat} {e : Nat → Int64} (h : tk_rng 0 3 (S i)) (h2 : co_ok e (K (S i).toNatClampNeg) (G i).toInt64 (V (S i).toNatClampNeg).toInt64 = true) (hk : 0 < k) : rp_go K V S G q w k i e sum = rp_go K V S G q w (k - 1) (i + 1) (co_e e (K (S i).toNatClampNeg) (G i).toInt64 (V (S i).toNatClampNeg).toInt64) (sum + tk_abs ((G i).toInt64 - co_m e (K (S i).toNatClampNeg))) := by
  obtain ⟨j, rfl⟩ : ∃ j, k = j + 1 := ⟨k - 1, by omega⟩
  rw [rp_go, if_pos h, if_pos h2]
  rfl
theorem rp_go_cf {K V S G : Nat → Int32} {q w sum : Int64} {k i : Nat} {e : Nat → Int64} (h : tk_rng 0 3 (S i)) (h2 : co_ok e (K (S i).toNatClampNeg) (G i).toInt64 (V (S i).toNatClampNeg).toInt64 = false) (hk : 0 < k) : rp_go K V S G q w k i e sum = none := by
  obtain ⟨j, rfl⟩ : ∃ j, k = j + 1 := ⟨k - 1, by omega⟩
  rw [rp_go, if_pos h, if_neg (by rw [h2]; decide)]
theorem rp_go_at {K V S G : Nat → Int32} {q w sum : Int64} {k i : Nat} {e : Nat → Int64} (h : ¬ tk_rng 0 3 (S i)) (h2 : ad_ok e (G i).toInt64 q w = true) (hk : 0 < k) : rp_go K V S G q w k i e sum = rp_go K V S G q w (k - 1) (i + 1) (ad_e e (G i).toInt64 q w) sum := by
  obtain ⟨j, rfl⟩ : ∃ j, k = j + 1 := ⟨k - 1, by omega⟩
  rw [rp_go, if_neg h, if_pos h2]
  rfl
theorem rp_go_af {K V S G : Nat → Int32} {q w sum : Int64} {k i : Nat} {e : Nat → Int64} (h : ¬ tk_rng 0 3 (S i)) (h2 : ad_ok e (G i).toInt64 q w = false) (hk : 0 < k) : rp_go K V S G q w k i e sum = none := by
  obtain ⟨j, rfl⟩ : ∃ j, k = j + 1 := ⟨k - 1, by omega⟩
  rw [rp_go, if_neg h, if_neg (by rw [h2]; decide)]
theorem tk_rng_nat {v : Int32} (h : tk_rng 0 3 v) : v = nI v.toNatClampNeg ∧ v.toNatClampNeg < 4 := by
  obtain ⟨h1, h2⟩ := h
  obtain ⟨j, hj, rfl⟩ := nI_of2 (x := v) (M := 3) (n := 3) rfl (fun z => by rw [Int32.lt_iff_toInt_lt] at z; rw [Int32.le_iff_toInt_le] at h1; omega) h2
  rw [nI_clamp (by omega)]
  exact ⟨rfl, by omega⟩
