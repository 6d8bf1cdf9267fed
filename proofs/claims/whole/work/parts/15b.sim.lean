theorem tk_rng_int {lo hi v : Int32} (h : tk_rng lo hi v) : lo.toInt ≤ v.toInt ∧ v.toInt ≤ hi.toInt := by
  obtain ⟨h1, h2⟩ := h
  rw [Int32.le_iff_toInt_le] at h1 h2
  exact ⟨h1, h2⟩
theorem tk_in_w {lo hi v : Int32} (h : tk_rng lo hi v) (h1 : -1000000000 ≤ lo.toInt) (h2 : hi.toInt ≤ 1000000000) : tk_in v.toInt64 = true := by
  obtain ⟨a, b⟩ := tk_rng_int h
  exact tk_in_of (by rw [Int32.toInt_toInt64]; omega) (by rw [Int32.toInt_toInt64]; omega)
theorem tk_fg_lo {s : Nat → Int32} {k : Nat} (h : k < 16) : tk_fg s k = s k := by
  rw [tk_fg, if_neg (by omega), tk_fg0, pk_un (by omega), pk_un (by omega), pk_un (by omega), pk_un (by omega), pk_un (by omega), pk_un (by omega), pk_un (by omega)]
theorem rec_lo {s : Nat → Int32} {n k : Nat} {x y : Int32} (hk : k < 22) : tk_rec s n x y k = s k := by
  by_cases h : n < 24
  · rw [tk_rec, if_pos h, pk_un (by omega), pk_un (by omega), pk_un (by omega)]
  · rw [tk_rec, if_neg h, pk_un (by omega), pk_un (by omega), pk_un (by omega), pk_un (by omega), tk_sh2, if_neg (by omega)]
theorem rec_22 {s : Nat → Int32} {n : Nat} {x y : Int32} : tk_rec s n x y 22 = nI (tk_sz n) := by
  by_cases h : n < 24
  · rw [tk_rec, if_pos h, pk_us, tk_sz, if_pos h]
  · rw [tk_rec, if_neg h, pk_us, tk_sz, if_neg h]
    rfl
theorem rec_S {S s : Nat → Int32} {n : Nat} {x y : Int32} (hn : n ≤ 24) (hS : ∀ i, i < n → S i = s (23 + 2 * i)) : ∀ i, i < tk_sz n → tk_app S n x i = tk_rec s n x y (23 + 2 * i) := by
  intro i hi
  by_cases h : n < 24
  · rw [tk_sz, if_pos h] at hi
    rw [tk_app, if_pos h, tk_rec, if_pos h]
    by_cases e : i = n
    · subst e
      rw [pk_us, pk_un (by omega), pk_un (by omega), pk_us]
    · rw [pk_un e, pk_un (by omega), pk_un (by omega), pk_un (by omega)]
      exact hS i (by omega)
  · rw [tk_sz, if_neg h] at hi
    rw [tk_app, if_neg h, tk_rec, if_neg h]
    by_cases e : i = 23
    · subst e
      rw [pk_us, show 23 + 2 * 23 = 69 from rfl, pk_un (by omega), pk_un (by omega), pk_us]
    · rw [pk_un e, pk_un (by omega), pk_un (by omega), pk_un (by omega), pk_un (by omega), tk_sh, if_pos (by omega), tk_sh2, if_pos (by omega), hS (i + 1) (by omega), show 23 + 2 * (i + 1) = 23 + 2 * i + 2 from by omega]
theorem rec_G {G s : Nat → Int32} {n : Nat} {x y : Int32} (hn : n ≤ 24) (hG : ∀ i, i < n → G i = s (23 + 2 * i + 1)) : ∀ i, i < tk_sz n → tk_app G n y i = tk_rec s n x y (23 + 2 * i + 1) := by
  intro i hi
  by_cases h : n < 24
  · rw [tk_sz, if_pos h] at hi
    rw [tk_app, if_pos h, tk_rec, if_pos h]
    by_cases e : i = n
    · subst e
      rw [pk_us, pk_un (by omega), pk_us]
    · rw [pk_un e, pk_un (by omega), pk_un (by omega), pk_un (by omega)]
      exact hG i (by omega)
  · rw [tk_sz, if_neg h] at hi
    rw [tk_app, if_neg h, tk_rec, if_neg h]
    by_cases e : i = 23
    · subst e
      rw [pk_us, show 23 + 2 * 23 + 1 = 70 from rfl, pk_un (by omega), pk_us]
    · rw [pk_un e, pk_un (by omega), pk_un (by omega), pk_un (by omega), pk_un (by omega), tk_sh, if_pos (by omega), tk_sh2, if_pos (by omega), hG (i + 1) (by omega), show 23 + 2 * (i + 1) + 1 = 23 + 2 * i + 1 + 2 from by omega]
theorem put_lo (s : Nat → Int32) (f : Nat → Int64) : ∀ k, k < 5 → tk_put s f k = (f k).toInt32 := tk_five rfl rfl rfl rfl rfl
theorem put_hi {s : Nat → Int32} {f : Nat → Int64} {k : Nat} (h : 5 ≤ k) : tk_put s f k = s k := by
  obtain ⟨j, rfl⟩ : ∃ j, k = j + 5 := ⟨k - 5, by omega⟩
  rfl
theorem ad_all {e : Nat → Int64} {u q w : Int64} (h : ad_ok e u q w = true) : ∀ k, k < 5 → tk_in (ad_e e u q w k) = true := by
  obtain ⟨h1, h2, h3, h4, h5⟩ := tk_mok_spec h
  exact tk_five h1 h2 h3 h4 h5
theorem cq_all {e : Nat → Int64} {a b p m z r : Int64} (k : cq_ok e a b p m z r = true) : (∀ j, j < 5 → tk_in (cq_e e a b p m z r j) = true) ∧ tk_in (cq_e e a b p m z r 6) = true ∧ tk_in (cq_e e a b p m z r 7) = true := by
  obtain ⟨h1, h2, h3, h4, h5⟩ := tk_mok_spec (co_ok_mok k)
  rw [cq_ok, Bool.and_eq_true, Bool.and_eq_true] at k
  exact ⟨tk_five h1 h2 h3 h4 h5, k.1.1, k.1.2⟩
theorem co_all {e : Nat → Int64} {kd : Int32} {z r : Int64} (k : co_ok e kd z r = true) : (∀ j, j < 5 → tk_in (co_e e kd z r j) = true) ∧ tk_in (co_e e kd z r 6) = true ∧ tk_in (co_e e kd z r 7) = true := by
  by_cases h : kd = 0
  · rw [co_ok0 h] at k
    rw [co_e0 h]
    exact cq_all k
  · rw [co_ok1 h] at k
    rw [co_e1 h]
    exact cq_all k
theorem co_m_in {e : Nat → Int64} {kd : Int32} (h : ∀ k, k < 5 → tk_in (e k) = true) : tk_in (co_m e kd) = true := by
  by_cases k : kd = 0
  · rw [co_m0 k]; exact h 0 (by decide)
  · rw [co_m1 k]; exact h 1 (by decide)
theorem inn_b {z : Int32} {m : Int64} (h : tk_rng (-40960000) 40960000 z) (hm : tk_in m = true) : -1040960000 ≤ (z.toInt64 - m).toInt ∧ (z.toInt64 - m).toInt ≤ 1040960000 := by
  obtain ⟨a, b⟩ := tk_rng_int h
  obtain ⟨c, d⟩ := tk_in_int hm
  have e1 : (-40960000 : Int32).toInt = -40960000 := by decide
  have e2 : (40960000 : Int32).toInt = 40960000 := by decide
  rw [Int64.toInt_sub, Int32.toInt_toInt64, Int.bmod_eq_of_le_mul_two] <;> omega
theorem inn_f {z : Int32} {m : Int64} (h : tk_rng (-40960000) 40960000 z) (hm : tk_in m = true) : (z.toInt64 - m).toInt32.toInt64 = z.toInt64 - m := by
  obtain ⟨a, b⟩ := inn_b h hm
  exact tk_fit2 (by omega) (by omega)
theorem app_hist {S G : Nat → Int32} {n : Nat} {x y : Int32} (hn : n ≤ 24) (h : ∀ i, i < n → S i = -1 ∨ (tk_rng 0 3 (S i) ∧ tk_rng (-40960000) 40960000 (G i))) (hx : x = -1 ∨ (tk_rng 0 3 x ∧ tk_rng (-40960000) 40960000 y)) : ∀ i, i < tk_sz n → tk_app S n x i = -1 ∨ (tk_rng 0 3 (tk_app S n x i) ∧ tk_rng (-40960000) 40960000 (tk_app G n y i)) := by
  intro i hi
  by_cases c : n < 24
  · rw [tk_sz, if_pos c] at hi
    rw [tk_app, tk_app, if_pos c, if_pos c]
    by_cases e : i = n
    · subst e
      rw [pk_us, pk_us]
      exact hx
    · rw [pk_un e, pk_un e]
      exact h i (by omega)
  · rw [tk_sz, if_neg c] at hi
    rw [tk_app, tk_app, if_neg c, if_neg c]
    by_cases e : i = 23
    · subst e
      rw [pk_us, pk_us]
      exact hx
    · rw [pk_un e, pk_un e, tk_sh, tk_sh, if_pos (by omega), if_pos (by omega)]
      exact h (i + 1) (by omega)
theorem tk_in_zero : tk_in 0 = true := by decide
theorem sim_reset {X : tk_X} {Y : tk_Y} (h : RX X Y) (x y z v : Int32) : SIM (xf_reset X x y z v) (yf_reset Y x y z v) := by
  by_cases hr : tk_rng (-40960000) 40960000 x ∧ tk_rng (-4096000) 4096000 y ∧ tk_rng 0 40960000 z ∧ tk_rng 0 40960000 v
  · rw [xf_reset, yf_reset, if_pos hr, if_pos hr]
    obtain ⟨m1, m2, m3, m4, m5, m6, m7⟩ := h.2.2.2.1
    obtain ⟨i1, i2, i3, i4, i5, i6⟩ := h.2.2.2.2.1
    obtain ⟨r1, r2, r3, r4⟩ := hr
    have e0 : (0 : Int32).toInt = 0 := rfl
    have ea : (-40960000 : Int32).toInt = -40960000 := by decide
    have eb : (40960000 : Int32).toInt = 40960000 := by decide
    have ec : (-4096000 : Int32).toInt = -4096000 := by decide
    have ed : (4096000 : Int32).toInt = 4096000 := by decide
    have p1 := tk_in_w r1 (by omega) (by omega)
    have p2 := tk_in_w r2 (by omega) (by omega)
    have p3 := tk_in_w r3 (by omega) (by omega)
    have p4 := tk_in_w r4 (by omega) (by omega)
    have nn : ∀ a : Int32, tk_rng 0 40960000 a → 0 ≤ a.toInt64 := fun a ha => by
      have := (tk_rng_int ha).1
      rw [Int64.le_iff_toInt_le, Int32.toInt_toInt64]
      exact this
    have g : ∀ k, 5 ≤ k → k < 16 → tk_fg (upd (upd (upd (upd (upd Y.2.1 0 x) 1 y) 2 z) 3 0) 4 v) k = Y.2.1 k := fun k a b => by
      rw [tk_fg_lo b, pk_un (by omega), pk_un (by omega), pk_un (by omega), pk_un (by omega), pk_un (by omega)]
    refine ⟨m5.symm, sim_sv h ⟨?_, ⟨?_, ?_, ?_⟩, ?_, ⟨rfl, rfl, rfl⟩, rfl, fun j hj => ?_, fun i hi => absurd hi (Nat.not_lt_zero i)⟩ ⟨Nat.zero_le 24, ?_, ⟨⟨nn z r3, (tk_in_le p3).2⟩, ⟨nn v r4, (tk_in_le p4).2⟩⟩, i4, i5, fun i hi => absurd hi (Nat.not_lt_zero i)⟩⟩
    · refine tk_five ?_ ?_ ?_ ?_ ?_
      · show x.toInt64 = _
        rw [tk_fg_lo (by decide), pk_un (by decide), pk_un (by decide), pk_un (by decide), pk_un (by decide), pk_us]
      · show y.toInt64 = _
        rw [tk_fg_lo (by decide), pk_un (by decide), pk_un (by decide), pk_un (by decide), pk_us]
      · show z.toInt64 = _
        rw [tk_fg_lo (by decide), pk_un (by decide), pk_un (by decide), pk_us]
      · show (0 : Int64) = _
        rw [tk_fg_lo (by decide), pk_un (by decide), pk_us]
        decide
      · show v.toInt64 = _
        rw [tk_fg_lo (by decide), pk_us]
    · show (-2000000001 : Int64) = (-2000000001 : Int32).toInt64
      decide
    · show (-2000000001 : Int64) = (-2000000001 : Int32).toInt64
      decide
    · show (-2000000001 : Int64) = (-2000000001 : Int32).toInt64
      decide
    · rw [g 5 (by decide) (by decide), g 6 (by decide) (by decide), g 7 (by decide) (by decide)]
      exact m3
    · rw [g (8 + j) (by omega) (by omega), g (12 + j) (by omega) (by omega)]
      exact m6 j hj
    · exact tk_five p1 p2 p3 tk_in_zero p4
  · rw [xf_reset, yf_reset, if_neg hr, if_neg hr]
    exact ⟨rfl, sim_fl h 0⟩
theorem sim_predict {X : tk_X} {Y : tk_Y} (h : RX X Y) {E : Nat → Int64} (hE : ag5 X.2.2.1.1 E) (y : Int32) : SIM (xf_predict X y) (yf_predict Y X.2.2.1.2.2.2.2.2.2.2.2.2.2.2 E y) := by
  by_cases hr : tk_rng (-4096000) 4096000 y
  · obtain ⟨m1, m2, m3, m4, m5, m6, m7⟩ := h.2.2.2.1
    obtain ⟨i1, i2, i3, i4, i5, i6⟩ := h.2.2.2.2.1
    have q5 : (Y.2.1 5) = X.2.2.1.2.1 := m3.1.symm
    have q6 : (Y.2.1 6) = X.2.2.1.2.2.1 := m3.2.1.symm
    rw [xf_predict, yf_predict, if_pos hr, if_pos hr, q5, q6, ← ag_ad_ok hE]
    by_cases ho : ad_ok X.2.2.1.1 y.toInt64 X.2.2.1.2.1.toInt64 X.2.2.1.2.2.1.toInt64 = true
    · rw [if_pos ho, if_pos ho]
      have hag := ag_ad_e hE y.toInt64 X.2.2.1.2.1.toInt64 X.2.2.1.2.2.1.toInt64
      have hall := ad_all ho
      have hiv := tk_iv_ad ho
      have h5 : ∀ k, 5 ≤ k → ad_e X.2.2.1.1 y.toInt64 X.2.2.1.2.1.toInt64 X.2.2.1.2.2.1.toInt64 k = X.2.2.1.1 k := fun k hk => by
        obtain ⟨j, rfl⟩ : ∃ j, k = j + 5 := ⟨k - 5, by omega⟩
        rfl
      generalize ad_e X.2.2.1.1 y.toInt64 X.2.2.1.2.1.toInt64 X.2.2.1.2.2.1.toInt64 = e' at hag hall hiv h5 ⊢
      generalize ad_e E y.toInt64 X.2.2.1.2.1.toInt64 X.2.2.1.2.2.1.toInt64 = E' at hag ⊢
      have gh : ∀ k, 5 ≤ k → k < 22 → tk_rec (tk_put Y.2.1 E') X.2.2.1.2.2.2.2.2.2.2.2.2.2.2 (-1) y k = Y.2.1 k := fun k a b => by rw [rec_lo b, put_hi a]
      refine ⟨?_, sim_sv h ⟨fun k hk => ?_, ?_, ?_, ?_, rec_22, fun j hj => ?_, fun i hi => ⟨?_, ?_⟩⟩ ⟨?_, hall, hiv, i4, i5, fun i hi => ?_⟩⟩
      · show (e' 0).toInt32 = _
        rw [rec_lo (by decide), put_lo _ _ 0 (by decide), hag 0 (by decide)]
      · show e' k = _
        rw [rec_lo (by omega), put_lo _ _ k hk, ← hag k hk, tk_fit (hall k hk)]
      · show e' 5 = _ ∧ e' 6 = _ ∧ e' 7 = _
        rw [gh 16 (by decide) (by decide), gh 17 (by decide) (by decide), gh 18 (by decide) (by decide), h5 5 (by decide), h5 6 (by decide), h5 7 (by decide)]
        exact m2
      · rw [gh 5 (by decide) (by decide), gh 6 (by decide) (by decide), gh 7 (by decide) (by decide)]
        exact m3
      · rw [gh 19 (by decide) (by decide), gh 20 (by decide) (by decide), gh 21 (by decide) (by decide)]
        exact m4
      · rw [gh (8 + j) (by omega) (by omega), gh (12 + j) (by omega) (by omega)]
        exact m6 j hj
      · exact rec_S i1 (fun a ha => by rw [put_hi (by omega)]; exact (m7 a ha).1) i hi
      · exact rec_G i1 (fun a ha => by rw [put_hi (by omega)]; exact (m7 a ha).2) i hi
      · show tk_sz _ ≤ 24
        unfold tk_sz
        split <;> omega
      · exact app_hist i1 i6 (Or.inl rfl) i hi
    · rw [if_neg ho, if_neg ho]
      exact ⟨rfl, sim_fl h 2⟩
  · rw [xf_predict, yf_predict, if_neg hr, if_neg hr]
    exact ⟨rfl, sim_fl h 0⟩
