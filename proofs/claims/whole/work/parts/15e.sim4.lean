theorem rp_sim {K V S G K' V' S' G' : Nat → Int32} {q w : Int64} {n : Nat} (hK : ∀ j, j < 4 → K j = K' j) (hV : ∀ j, j < 4 → V j = V' j) (hS : ∀ i, i < n → S i = S' i) (hG : ∀ i, i < n → G i = G' i) : ∀ (k i : Nat) (e f : Nat → Int64) (sum : Int64), k + i = n → ag5 e f → rp_go K V S G q w k i e sum = rp_go K' V' S' G' q w k i f sum := by
  intro k
  induction k with
  | zero => intro i e f sum _ h; rfl
  | succ k ih =>
    intro i e f sum hk h
    rw [rp_go, rp_go, ← hS i (by omega), ← hG i (by omega)]
    by_cases hr : tk_rng 0 3 (S i)
    · have hx := (tk_rng_nat hr).2
      rw [if_pos hr, if_pos hr, ← hK _ hx, ← hV _ hx, ag_co_ok h, ag_co_m h, ih _ _ _ _ (by omega) (ag_co_e5 h _ _ _)]
    · rw [if_neg hr, if_neg hr, ag_ad_ok h, ih _ _ _ sum (by omega) (ag_ad_e h _ _ _)]
theorem tk_abs_b {y : Int64} (h1 : -1040960000 ≤ y.toInt) (h2 : y.toInt ≤ 1040960000) : 0 ≤ (tk_abs y).toInt ∧ (tk_abs y).toInt ≤ 1040960000 := by
  have e0 : (0 : Int64).toInt = 0 := rfl
  by_cases z : 0 < y
  · rw [tk_abs, if_pos z]
    rw [Int64.lt_iff_toInt_lt] at z
    omega
  · rw [tk_abs, if_neg z, Int64.toInt_neg, Int.bmod_eq_of_le_mul_two] <;> rw [Int64.lt_iff_toInt_lt] at z <;> omega
theorem rp_nn {K V S G : Nat → Int32} {q w : Int64} {n : Nat} (hn : n ≤ 24) (hh : ∀ i, i < n → S i = -1 ∨ (tk_rng 0 3 (S i) ∧ tk_rng (-40960000) 40960000 (G i))) : ∀ (k i : Nat) (e : Nat → Int64) (sum x : Int64), k + i = n → (∀ j, j < 5 → tk_in (e j) = true) → 0 ≤ sum.toInt → sum.toInt ≤ i * 1040960000 → rp_go K V S G q w k i e sum = some x → 0 ≤ x.toInt := by
  intro k
  induction k with
  | zero =>
    intro i e sum x _ _ h1 _ h
    rw [rp_go] at h
    cases h
    exact h1
  | succ k ih =>
    intro i e sum x hk he h1 h2 h
    rw [rp_go] at h
    by_cases hr : tk_rng 0 3 (S i)
    · rw [if_pos hr] at h
      have hg : tk_rng (-40960000) 40960000 (G i) := by
        rcases hh i (by omega) with c | c
        · rw [c] at hr
          exact absurd hr tk_m1
        · exact c.2
      by_cases ho : co_ok e (K (S i).toNatClampNeg) (G i).toInt64 (V (S i).toNatClampNeg).toInt64 = true
      · rw [if_pos ho] at h
        obtain ⟨b1, b2⟩ := inn_b hg (co_m_in (kd := K (S i).toNatClampNeg) he)
        obtain ⟨b3, b4⟩ := tk_abs_b b1 b2
        have e1 : (sum + tk_abs ((G i).toInt64 - co_m e (K (S i).toNatClampNeg))).toInt = sum.toInt + (tk_abs ((G i).toInt64 - co_m e (K (S i).toNatClampNeg))).toInt := by
          rw [Int64.toInt_add, Int.bmod_eq_of_le_mul_two] <;> omega
        exact ih _ _ _ x (by omega) (co_all ho).1 (by rw [e1]; omega) (by rw [e1]; omega) h
      · rw [if_neg ho] at h
        cases h
    · rw [if_neg hr] at h
      by_cases ho : ad_ok e (G i).toInt64 q w = true
      · rw [if_pos ho] at h
        exact ih _ _ _ x (by omega) (ad_all ho) h1 (by omega) h
      · rw [if_neg ho] at h
        cases h
theorem rr_ro {o : Option Int64} (h : ∀ x, o = some x → 0 ≤ x.toInt) : (tk_rr o = -2000000004 ∧ tk_ro o = -1) ∨ (¬ tk_rr o = -2000000004 ∧ 0 ≤ tk_ro o ∧ tk_rr o = (tk_ro o).toInt32 ∧ (tk_rr o).toInt64 = tk_ro o) := by
  cases o with
  | none => exact Or.inl ⟨rfl, rfl⟩
  | some x =>
    by_cases c : tk_in x = true
    · have e1 : tk_rr (some x) = x.toInt32 := by rw [tk_rr, if_pos c]
      have e2 : tk_ro (some x) = x := by rw [tk_ro, if_pos c]
      rw [e1, e2]
      have hx := h x rfl
      refine Or.inr ⟨fun z => ?_, ?_, rfl, tk_fit c⟩
      · have e3 := tk_fit c
        rw [z] at e3
        rw [← e3] at hx
        exact absurd hx (by decide)
      · rw [Int64.le_iff_toInt_le]
        exact hx
    · have e1 : tk_rr (some x) = -2000000004 := by rw [tk_rr, if_neg c]
      have e2 : tk_ro (some x) = -1 := by rw [tk_ro, if_neg c]
      exact Or.inl ⟨e1, e2⟩
theorem hb_congr {S S' : Nat → Int32} {n : Nat} (h : ∀ i, i < n → S i = S' i) : tk_hb S n = tk_hb S' n := by
  induction n with
  | zero => rfl
  | succ n ih => rw [tk_hb, tk_hb, ih (fun i hi => h i (by omega)), h n (by omega)]
theorem rp_XY {X : tk_X} {Y : tk_Y} (h : RX X Y) {E : Nat → Int64} (hE : ag5 X.2.2.1.1 E) (fw : Int64) : rp_go X.2.2.1.2.2.2.2.2.2.2.1 X.2.2.1.2.2.2.2.2.2.2.2.1 X.2.2.1.2.2.2.2.2.2.2.2.2.1 X.2.2.1.2.2.2.2.2.2.2.2.2.2.1 X.2.2.1.2.1.toInt64 fw X.2.2.1.2.2.2.2.2.2.2.2.2.2.2 0 X.2.2.1.1 0 = rp_go (tk_yK Y.2.1) (tk_yV Y.2.1) (tk_yS Y.2.1) (tk_yG Y.2.1) (Y.2.1 5).toInt64 fw X.2.2.1.2.2.2.2.2.2.2.2.2.2.2 0 E 0 := by
  obtain ⟨m1, m2, m3, m4, m5, m6, m7⟩ := h.2.2.2.1
  rw [← m3.1]
  exact rp_sim (fun j hj => (m6 j hj).1) (fun j hj => (m6 j hj).2) (fun i hi => (m7 i hi).1) (fun i hi => (m7 i hi).2) _ 0 _ _ 0 (by omega) hE
theorem rp_Xnn {X : tk_X} {Y : tk_Y} (h : RX X Y) (fw : Int64) : ∀ x, rp_go X.2.2.1.2.2.2.2.2.2.2.1 X.2.2.1.2.2.2.2.2.2.2.2.1 X.2.2.1.2.2.2.2.2.2.2.2.2.1 X.2.2.1.2.2.2.2.2.2.2.2.2.2.1 X.2.2.1.2.1.toInt64 fw X.2.2.1.2.2.2.2.2.2.2.2.2.2.2 0 X.2.2.1.1 0 = some x → 0 ≤ x.toInt := by
  obtain ⟨i1, i2, i3, i4, i5, i6⟩ := h.2.2.2.2.1
  exact fun x hx => rp_nn i1 i6 _ 0 _ 0 x (by omega) i2 (by decide) (by decide) hx
theorem sim_replayError {X : tk_X} {Y : tk_Y} (h : RX X Y) {E : Nat → Int64} (hE : ag5 X.2.2.1.1 E) (y : Int32) : SIM (xf_replayError X y) (yf_replayError Y X.2.2.1.2.2.2.2.2.2.2.2.2.2.2 E y) := by
  obtain ⟨m1, m2, m3, m4, m5, m6, m7⟩ := h.2.2.2.1
  by_cases hr : tk_rng 0 4096000 y
  · have e1 : tk_hb X.2.2.1.2.2.2.2.2.2.2.2.2.1 X.2.2.1.2.2.2.2.2.2.2.2.2.2.2 = tk_hb (tk_yS Y.2.1) X.2.2.1.2.2.2.2.2.2.2.2.2.2.2 := hb_congr (fun i hi => (m7 i hi).1)
    rw [xf_replayError, yf_replayError, if_pos hr, if_pos hr, ← e1, ← rp_XY h hE]
    by_cases hb : tk_hb X.2.2.1.2.2.2.2.2.2.2.2.2.1 X.2.2.1.2.2.2.2.2.2.2.2.2.2.2 = true
    · rw [if_pos hb, if_pos hb]
      rcases rr_ro (rp_Xnn h y.toInt64) with ⟨a, b⟩ | ⟨a, b, c, d⟩
      · rw [if_pos a, b, if_pos (by decide)]
        exact ⟨rfl, sim_fl h 2⟩
      · rw [if_neg a, if_neg (Int64.not_lt.mpr b)]
        exact ⟨c, h⟩
    · rw [if_neg hb, if_neg hb]
      exact ⟨rfl, sim_fl h 1⟩
  · rw [xf_replayError, yf_replayError, if_neg hr, if_neg hr]
    exact ⟨rfl, sim_fl h 0⟩
theorem bf_sim {r : Int32 → Int32} {r' : Int32 → Int64} (h : ∀ c, (r c = -2000000004 ∧ r' c = -1) ∨ (¬ r c = -2000000004 ∧ 0 ≤ r' c ∧ r c = (r' c).toInt32 ∧ (r c).toInt64 = r' c)) : ∀ (k i : Nat) (b : Int32) (m : Int64), bf_x r k i b m = bf_y r' k i b m := by
  intro k
  induction k with
  | zero => intro i b m; rfl
  | succ k ih =>
    intro i b m
    rw [bf_x, bf_y]
    rcases h (tk_cd i) with ⟨a, c⟩ | ⟨a, c, _, d⟩
    · rw [if_neg (fun z => z.1 a), if_neg (fun z => absurd z.1 (by rw [c]; decide))]
      exact ih _ _ _
    · rw [d]
      by_cases z : r' (tk_cd i) < m
      · rw [if_pos ⟨a, z⟩, if_pos ⟨c, z⟩]
        exact ih _ _ _
      · rw [if_neg (fun y => z y.2), if_neg (fun y => z y.2)]
        exact ih _ _ _
theorem sim_bestFlowNoise {X : tk_X} {Y : tk_Y} (h : RX X Y) {E : Nat → Int64} (hE : ag5 X.2.2.1.1 E) : SIM (xf_bestFlowNoise X) (yf_bestFlowNoise Y X.2.2.1.2.2.2.2.2.2.2.2.2.2.2 E) := by
  obtain ⟨m1, m2, m3, m4, m5, m6, m7⟩ := h.2.2.2.1
  have e1 : tk_hb X.2.2.1.2.2.2.2.2.2.2.2.2.1 X.2.2.1.2.2.2.2.2.2.2.2.2.2.2 = tk_hb (tk_yS Y.2.1) X.2.2.1.2.2.2.2.2.2.2.2.2.2.2 := hb_congr (fun i hi => (m7 i hi).1)
  rw [xf_bestFlowNoise, yf_bestFlowNoise, ← e1]
  by_cases hb : tk_hb X.2.2.1.2.2.2.2.2.2.2.2.2.1 X.2.2.1.2.2.2.2.2.2.2.2.2.2.2 = true
  · rw [if_pos hb, if_pos hb]
    refine ⟨?_, h⟩
    dsimp only
    refine bf_sim (fun c => ?_) 12 0 _ _
    rw [← rp_XY h hE]
    exact rr_ro (rp_Xnn h c.toInt64)
  · rw [if_neg hb, if_neg hb]
    exact ⟨rfl, sim_fl h 1⟩
theorem hh_hy {S G s : Nat → Int32} {n : Nat} (h : ∀ i, i < n → S i = s (23 + 2 * i) ∧ G i = s (23 + 2 * i + 1)) (a : Int64) : tk_hh S G n a = tk_hy s (2 * n) a := by
  induction n with
  | zero => rfl
  | succ n ih =>
    obtain ⟨h1, h2⟩ := h n (by omega)
    rw [tk_hh, ih (fun i hi => h i (by omega)), h1, h2, show 2 * (n + 1) = 2 * n + 1 + 1 from by omega, tk_hy, tk_hy]
    rfl
theorem sim_digest {X : tk_X} {Y : tk_Y} (h : RX X Y) : xf_digest X = yf_digest Y X.2.2.1.2.2.2.2.2.2.2.2.2.2.2 := by
  obtain ⟨m1, m2, m3, m4, m5, m6, m7⟩ := h.2.2.2.1
  rw [xf_digest, yf_digest, tk_mm, hh_hy m7, h.1, h.2.2.1, m1 0 (by decide), m1 1 (by decide), m1 2 (by decide), m1 3 (by decide), m1 4 (by decide), m2.1, m2.2.1, m2.2.2, m3.1, m3.2.1, m3.2.2, m4.1, m4.2.1, m4.2.2, (m6 0 (by decide)).1, (m6 1 (by decide)).1, (m6 2 (by decide)).1, (m6 3 (by decide)).1, (m6 0 (by decide)).2, (m6 1 (by decide)).2, (m6 2 (by decide)).2, (m6 3 (by decide)).2, m5]
