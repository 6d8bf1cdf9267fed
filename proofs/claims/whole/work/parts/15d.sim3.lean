theorem ag_ad_n {q w : Int64} : ∀ (k : Nat) (e f : Nat → Int64), ag5 e f → (ad_n q w k e = none ∧ ad_n q w k f = none) ∨ ∃ e' f', ad_n q w k e = some e' ∧ ad_n q w k f = some f' ∧ ag5 e' f' := by
  intro k
  induction k with
  | zero => intro e f h; exact Or.inr ⟨e, f, rfl, rfl, h⟩
  | succ k ih =>
    intro e f h
    rw [ad_n, ad_n, ag_ad_ok h]
    by_cases c : ad_ok f 0 q w = true
    · rw [if_pos c, if_pos c]
      exact ih _ _ (ag_ad_e h 0 q w)
    · rw [if_neg c, if_neg c]
      exact Or.inl ⟨rfl, rfl⟩
theorem sim_forecast {X : tk_X} {Y : tk_Y} (h : RX X Y) {E : Nat → Int64} (hE : ag5 X.2.2.1.1 E) (y : Int32) : SIM (xf_forecast X y) (yf_forecast Y E y) := by
  obtain ⟨m1, m2, m3, m4, m5, m6, m7⟩ := h.2.2.2.1
  by_cases hr : tk_rng 0 100 y
  · rw [xf_forecast, yf_forecast, if_pos hr, if_pos hr, ← m3.1, ← m3.2.1]
    rcases ag_ad_n (q := X.2.2.1.2.1.toInt64) (w := X.2.2.1.2.2.1.toInt64) y.toNatClampNeg _ _ hE with ⟨a, b⟩ | ⟨e', f', a, b, c⟩
    · rw [a, b]
      exact ⟨rfl, sim_fl h 2⟩
    · rw [a, b]
      exact ⟨congrArg Int64.toInt32 (c 0 (by decide)), h⟩
  · rw [xf_forecast, yf_forecast, if_neg hr, if_neg hr]
    exact ⟨rfl, sim_fl h 0⟩
theorem sim_forecastVariance {X : tk_X} {Y : tk_Y} (h : RX X Y) {E : Nat → Int64} (hE : ag5 X.2.2.1.1 E) (y : Int32) : SIM (xf_forecastVariance X y) (yf_forecastVariance Y E y) := by
  obtain ⟨m1, m2, m3, m4, m5, m6, m7⟩ := h.2.2.2.1
  by_cases hr : tk_rng 0 100 y
  · rw [xf_forecastVariance, yf_forecastVariance, if_pos hr, if_pos hr, ← m3.1, ← m3.2.1]
    rcases ag_ad_n (q := X.2.2.1.2.1.toInt64) (w := X.2.2.1.2.2.1.toInt64) y.toNatClampNeg _ _ hE with ⟨a, b⟩ | ⟨e', f', a, b, c⟩
    · rw [a, b]
      exact ⟨rfl, sim_fl h 2⟩
    · rw [a, b]
      exact ⟨congrArg Int64.toInt32 (c 2 (by decide)), h⟩
  · rw [xf_forecastVariance, yf_forecastVariance, if_neg hr, if_neg hr]
    exact ⟨rfl, sim_fl h 0⟩
theorem ag_st {q w t : Int64} {up : Bool} : ∀ (k i : Nat) (e f : Nat → Int64), ag5 e f → st_go q w up t k i e = st_go q w up t k i f := by
  intro k
  induction k with
  | zero => intro i e f h; rfl
  | succ k ih =>
    intro i e f h
    rw [st_go, st_go, ag_ad_ok h, h 0 (by decide), ih _ _ _ (ag_ad_e h 0 q w)]
theorem sim_stepsTo {X : tk_X} {Y : tk_Y} (h : RX X Y) {E : Nat → Int64} (hE : ag5 X.2.2.1.1 E) (y : Int32) : SIM (xf_stepsTo X y) (yf_stepsTo Y E y) := by
  obtain ⟨m1, m2, m3, m4, m5, m6, m7⟩ := h.2.2.2.1
  by_cases hr : tk_rng (-40960000) 40960000 y
  · rw [xf_stepsTo, yf_stepsTo, if_pos hr, if_pos hr, ← m3.1, ← m3.2.1, ← hE 0 (by decide), ag_st 101 0 _ _ hE]
    exact ⟨rfl, h⟩
  · rw [xf_stepsTo, yf_stepsTo, if_neg hr, if_neg hr]
    exact ⟨rfl, sim_fl h 0⟩
theorem ag_cy {q w v : Int64} {kd : Int32} : ∀ (k i : Nat) (e f : Nat → Int64), ag5 e f → (cy_go q w v kd k i e).1 = (cy_go q w v kd k i f).1 ∧ ((cy_go q w v kd k i e).1 = -2000000001 ∨ ∀ j, j < 8 → (cy_go q w v kd k i e).2 j = (cy_go q w v kd k i f).2 j) := by
  intro k
  induction k with
  | zero => intro i e f h; exact ⟨rfl, Or.inl rfl⟩
  | succ k ih =>
    intro i e f h
    have a1 := ag_ad_e h 0 q w
    have e1 : cy_ok q w v kd e = cy_ok q w v kd f := by rw [cy_ok, cy_ok, ag_ad_ok h, ag_co_m a1, ag_co_ok a1]
    have e2 : ∀ j, j < 8 → cy_e q w v kd e j = cy_e q w v kd f j := fun j hj => by rw [cy_e, cy_e, ag_co_m a1, ag_co_e a1 kd _ v j hj]
    have e3 : cy_eq e (cy_e q w v kd e) ↔ cy_eq f (cy_e q w v kd f) := by
      rw [cy_eq, cy_eq, e2 2 (by decide), e2 3 (by decide), e2 4 (by decide), h 2 (by decide), h 3 (by decide), h 4 (by decide)]
    rw [cy_go, cy_go, e1]
    by_cases c : cy_ok q w v kd f = true
    · rw [if_pos c, if_pos c]
      by_cases d : cy_eq e (cy_e q w v kd e)
      · rw [if_pos d, if_pos (e3.mp d)]
        exact ⟨rfl, Or.inr e2⟩
      · rw [if_neg d, if_neg (fun z => d (e3.mpr z))]
        exact ih _ _ _ (fun j hj => e2 j (by omega))
    · rw [if_neg c, if_neg c]
      exact ⟨rfl, Or.inl rfl⟩
theorem sim_steadyCycles {X : tk_X} {Y : tk_Y} (h : RX X Y) {E : Nat → Int64} (hE : ag5 X.2.2.1.1 E) (x : Int32) : SIM (xf_steadyCycles X x) (yf_steadyCycles Y E x) := by
  obtain ⟨m1, m2, m3, m4, m5, m6, m7⟩ := h.2.2.2.1
  by_cases hr : tk_rng 0 3 x
  · have hx := (tk_rng_nat hr).2
    rw [xf_steadyCycles, yf_steadyCycles, if_pos hr, if_pos hr, ← m3.1, ← m3.2.1, ← (m6 _ hx).1, ← (m6 _ hx).2]
    exact ⟨(ag_cy 300 1 _ _ hE).1, h⟩
  · rw [xf_steadyCycles, yf_steadyCycles, if_neg hr, if_neg hr]
    exact ⟨rfl, sim_fl h 0⟩
theorem sim_steadyGain {X : tk_X} {Y : tk_Y} (h : RX X Y) {E : Nat → Int64} (hE : ag5 X.2.2.1.1 E) (x y : Int32) : SIM (xf_steadyGain X x y) (yf_steadyGain Y E x y) := by
  obtain ⟨m1, m2, m3, m4, m5, m6, m7⟩ := h.2.2.2.1
  by_cases hr : tk_rng 0 3 x ∧ (y = 0 ∨ y = 1)
  · have hr2 : tk_rng 0 3 x ∧ tk_rng 0 1 y := ⟨hr.1, tk_kind.mp hr.2⟩
    have hx := (tk_rng_nat hr.1).2
    rw [xf_steadyGain, yf_steadyGain, if_pos hr, if_pos hr2, ← m3.1, ← m3.2.1, ← (m6 _ hx).1, ← (m6 _ hx).2]
    obtain ⟨g1, g2⟩ := ag_cy (q := X.2.2.1.2.1.toInt64) (w := X.2.2.1.2.2.1.toInt64) (v := (X.2.2.1.2.2.2.2.2.2.2.2.1 x.toNatClampNeg).toInt64) (kd := X.2.2.1.2.2.2.2.2.2.2.1 x.toNatClampNeg) 300 1 _ _ hE
    refine ⟨?_, h⟩
    show ite _ _ _ = ite _ _ _
    rw [← g1]
    by_cases c : (cy_go X.2.2.1.2.1.toInt64 X.2.2.1.2.2.1.toInt64 (X.2.2.1.2.2.2.2.2.2.2.2.1 x.toNatClampNeg).toInt64 (X.2.2.1.2.2.2.2.2.2.2.1 x.toNatClampNeg) 300 1 X.2.2.1.1).1 = -2000000001
    · rw [if_pos c, if_pos c]
    · have g3 := g2.resolve_left c
      rw [if_neg c, if_neg c, g3 6 (by decide), g3 7 (by decide)]
  · have hr2 : ¬ (tk_rng 0 3 x ∧ tk_rng 0 1 y) := fun z => hr ⟨z.1, tk_kind.mpr z.2⟩
    rw [xf_steadyGain, yf_steadyGain, if_neg hr, if_neg hr2]
    exact ⟨rfl, sim_fl h 0⟩
