/-! ===== THE RELATION of the class's state and the reference's ===== -/
theorem tk_fit2 {x : Int64} (h1 : -2000000000 ≤ x.toInt) (h2 : x.toInt ≤ 2000000000) : x.toInt32.toInt64 = x := by
  apply Int64.toInt_inj.mp
  rw [Int32.toInt_toInt64, Int64.toInt_toInt32, Int.bmod_eq_of_le_mul_two] <;> omega
theorem tk_in_int {x : Int64} (h : tk_in x = true) : -1000000000 ≤ x.toInt ∧ x.toInt ≤ 1000000000 := by
  obtain ⟨h1, h2⟩ := tk_in_le h
  rw [Int64.le_iff_toInt_le] at h1 h2
  have e1 : (-1000000000 : Int64).toInt = -1000000000 := by decide
  have e2 : (1000000000 : Int64).toInt = 1000000000 := by decide
  omega
theorem tk_in_of {x : Int64} (h1 : -1000000000 ≤ x.toInt) (h2 : x.toInt ≤ 1000000000) : tk_in x = true := by
  have e1 : (-1000000000 : Int64).toInt = -1000000000 := by decide
  have e2 : (1000000000 : Int64).toInt = 1000000000 := by decide
  exact tk_in_t (by rw [Int64.lt_iff_toInt_lt]; omega) (by rw [Int64.lt_iff_toInt_lt]; omega)
theorem tk_fit {x : Int64} (h : tk_in x = true) : x.toInt32.toInt64 = x := by
  obtain ⟨h1, h2⟩ := tk_in_int h
  exact tk_fit2 (by omega) (by omega)
abbrev RM (M : tk_M) (s : Nat → Int32) : Prop :=
  (∀ k, k < 5 → M.1 k = (s k).toInt64) ∧ (M.1 5 = (s 16).toInt64 ∧ M.1 6 = (s 17).toInt64 ∧ M.1 7 = (s 18).toInt64) ∧
  (M.2.1 = s 5 ∧ M.2.2.1 = s 6 ∧ M.2.2.2.1 = s 7) ∧ (M.2.2.2.2.1 = s 19 ∧ M.2.2.2.2.2.1 = s 20 ∧ M.2.2.2.2.2.2.1 = s 21) ∧ s 22 = nI M.2.2.2.2.2.2.2.2.2.2.2 ∧
  (∀ j, j < 4 → M.2.2.2.2.2.2.2.1 j = s (8 + j) ∧ M.2.2.2.2.2.2.2.2.1 j = s (12 + j)) ∧
  (∀ i, i < M.2.2.2.2.2.2.2.2.2.2.2 → M.2.2.2.2.2.2.2.2.2.1 i = s (23 + 2 * i) ∧ M.2.2.2.2.2.2.2.2.2.2.1 i = s (23 + 2 * i + 1))
abbrev IM (M : tk_M) : Prop :=
  M.2.2.2.2.2.2.2.2.2.2.2 ≤ 24 ∧ (∀ k, k < 5 → tk_in (M.1 k) = true) ∧ tk_iv M.1 ∧ tk_rng 0 4096000 M.2.2.1 ∧ (∀ j, j < 4 → tk_rv (M.2.2.2.2.2.2.2.2.1 j)) ∧
  (∀ i, i < M.2.2.2.2.2.2.2.2.2.2.2 → M.2.2.2.2.2.2.2.2.2.1 i = -1 ∨ (tk_rng 0 3 (M.2.2.2.2.2.2.2.2.2.1 i) ∧ tk_rng (-40960000) 40960000 (M.2.2.2.2.2.2.2.2.2.2.1 i)))
abbrev RX (X : tk_X) (Y : tk_Y) : Prop :=
  X.1 = Y.1 ∧ X.1 ≤ 4 ∧ X.2.1 = Y.2.2.2 ∧ RM X.2.2.1 Y.2.1 ∧ IM X.2.2.1 ∧ ∀ i, i < X.1 → RM (X.2.2.2 i) (fun k => Y.2.2.1 (71 * i + k)) ∧ IM (X.2.2.2 i)
abbrev SIM (a : Int32 × tk_X) (b : Int32 × tk_Y) : Prop := a.1 = b.1 ∧ RX a.2 b.2
theorem RM.congr {M : tk_M} {s s' : Nat → Int32} (h : RM M s) (hn : IM M) (hs : ∀ k, k < 71 → s' k = s k) : RM M s' := by
  obtain ⟨h1, h2, h3, h4, h5, h6, h7⟩ := h
  have n24 := hn.1
  refine ⟨fun k hk => ?_, ?_, ?_, ?_, ?_, fun j hj => ?_, fun i hi => ?_⟩
  · rw [hs k (by omega)]; exact h1 k hk
  · rw [hs 16 (by decide), hs 17 (by decide), hs 18 (by decide)]; exact h2
  · rw [hs 5 (by decide), hs 6 (by decide), hs 7 (by decide)]; exact h3
  · rw [hs 19 (by decide), hs 20 (by decide), hs 21 (by decide)]; exact h4
  · rw [hs 22 (by decide)]; exact h5
  · rw [hs (8 + j) (by omega), hs (12 + j) (by omega)]; exact h6 j hj
  · rw [hs (23 + 2 * i) (by omega), hs (23 + 2 * i + 1) (by omega)]; exact h7 i hi
theorem sim_fl {X : tk_X} {Y : tk_Y} (h : RX X Y) (j : Nat) : RX (tk_fl X j) (tk_yl Y j) := by
  obtain ⟨h1, h2, h3, h4, h5, h6⟩ := h
  refine ⟨h1, h2, ?_, h4, h5, h6⟩
  show upd X.2.1 j (X.2.1 j + 1) = upd Y.2.2.2 j (Y.2.2.2 j + 1)
  rw [h3]
theorem sim_sv {X : tk_X} {Y : tk_Y} (h : RX X Y) {M : tk_M} {s : Nat → Int32} (hM : RM M s) (hI : IM M) : RX (tk_sv X M) (tk_nv Y s) := by
  obtain ⟨h1, h2, h3, h4, h5, h6⟩ := h
  refine ⟨?_, ?_, h3, hM, hI, ?_⟩
  · show tk_np X.1 = tk_np Y.1
    rw [h1]
  · show tk_np X.1 ≤ 4
    unfold tk_np
    split <;> omega
  · intro i hi
    have hi : i < tk_np X.1 := hi
    show RM (tk_sS X.2.2.2 X.1 X.2.2.1 i) (fun k => tk_nP Y.2.2.1 Y.1 Y.2.1 (71 * i + k)) ∧ IM (tk_sS X.2.2.2 X.1 X.2.2.1 i)
    rw [← h1]
    by_cases hp : X.1 < 4
    · rw [tk_np, if_pos hp] at hi
      have e1 : tk_sS X.2.2.2 X.1 X.2.2.1 i = if i = X.1 then X.2.2.1 else X.2.2.2 i := by rw [tk_sS, if_pos hp]
      have e2 : tk_nP Y.2.2.1 X.1 Y.2.1 = tk_nb X.1 Y.2.1 Y.2.2.1 := if_pos hp
      rw [e1, e2]
      by_cases e : i = X.1
      · rw [if_pos e, e]
        refine ⟨h4.congr h5 (fun k hk => ?_), h5⟩
        rw [tk_nb, if_pos (by omega), Nat.add_sub_cancel_left]
      · rw [if_neg e]
        obtain ⟨g1, g2⟩ := h6 i (by omega)
        refine ⟨g1.congr g2 (fun k hk => ?_), g2⟩
        rw [tk_nb, if_neg (by omega)]
    · rw [tk_np, if_neg hp] at hi
      have e1 : tk_sS X.2.2.2 X.1 X.2.2.1 i = if i < 3 then X.2.2.2 (i + 1) else X.2.2.1 := by rw [tk_sS, if_neg hp]
      have e2 : tk_nP Y.2.2.1 X.1 Y.2.1 = tk_nb 3 Y.2.1 (tk_sh71 Y.2.2.1) := if_neg hp
      rw [e1, e2]
      by_cases e : i < 3
      · rw [if_pos e]
        obtain ⟨g1, g2⟩ := h6 (i + 1) (by omega)
        refine ⟨g1.congr g2 (fun k hk => ?_), g2⟩
        rw [tk_nb, if_neg (by omega), tk_sh71, if_pos (by omega), show 71 * i + k + 71 = 71 * (i + 1) + k from by omega]
      · rw [if_neg e]
        refine ⟨h4.congr h5 (fun k hk => ?_), h5⟩
        rw [show i = 3 from by omega, tk_nb, if_pos (by omega), Nat.add_sub_cancel_left]
theorem sim_undo {X : tk_X} {Y : tk_Y} (h : RX X Y) : SIM (xf_undo X) (yf_undo Y) := by
  have h' := h
  obtain ⟨h1, h2, h3, h4, h5, h6⟩ := h
  by_cases hp : X.1 = 0
  · rw [xf_undo, yf_undo, if_pos hp, if_pos (by rw [← h1]; exact hp)]
    exact ⟨rfl, sim_fl h' 1⟩
  · rw [xf_undo, yf_undo, if_neg hp, if_neg (by rw [← h1]; exact hp)]
    obtain ⟨g1, g2⟩ := h6 (X.1 - 1) (by omega)
    refine ⟨?_, ?_, ?_, h3, ?_, g2, fun i hi => h6 i ?_⟩
    · show nI (X.1 - 1) = nI (Y.1 - 1)
      rw [h1]
    · show X.1 - 1 = Y.1 - 1
      rw [h1]
    · show X.1 - 1 ≤ 4
      omega
    · show RM (X.2.2.2 (X.1 - 1)) (tk_un Y.2.2.1 (Y.1 - 1))
      rw [← h1]
      exact g1
    · have hi : i < X.1 - 1 := hi
      omega
theorem sim_setGate {X : tk_X} {Y : tk_Y} (h : RX X Y) (y : Int32) : SIM (xf_setGate X y) (yf_setGate Y y) := by
  by_cases hr : tk_rng 0 25 y
  · rw [xf_setGate, yf_setGate, if_pos hr, if_pos hr]
    obtain ⟨m1, m2, m3, m4, m5, m6, m7⟩ := h.2.2.2.1
    have hI := h.2.2.2.2.1
    refine ⟨m3.2.2, sim_sv h ⟨fun k hk => ?_, m2, ⟨m3.1, m3.2.1, rfl⟩, m4, m5, fun j hj => ?_, fun i hi => ?_⟩ hI⟩
    · rw [pk_un (by omega)]; exact m1 k hk
    · rw [pk_un (by omega), pk_un (by omega)]; exact m6 j hj
    · rw [pk_un (by omega), pk_un (by omega)]; exact m7 i hi
  · rw [xf_setGate, yf_setGate, if_neg hr, if_neg hr]
    exact ⟨rfl, sim_fl h 0⟩
theorem sim_setProcessNoise {X : tk_X} {Y : tk_Y} (h : RX X Y) (y z : Int32) : SIM (xf_setProcessNoise X y z) (yf_setProcessNoise Y y z) := by
  by_cases hr : tk_rng 0 4096000 y ∧ tk_rng 0 4096000 z
  · rw [xf_setProcessNoise, yf_setProcessNoise, if_pos hr, if_pos hr]
    obtain ⟨m1, m2, m3, m4, m5, m6, m7⟩ := h.2.2.2.1
    obtain ⟨i1, i2, i3, i4, i5, i6⟩ := h.2.2.2.2.1
    refine ⟨m3.2.1, sim_sv h ⟨fun k hk => ?_, m2, ⟨rfl, rfl, m3.2.2⟩, m4, m5, fun j hj => ?_, fun i hi => ?_⟩ ⟨i1, i2, i3, hr.2, i5, i6⟩⟩
    · rw [pk_un (by omega), pk_un (by omega)]; exact m1 k hk
    · rw [pk_un (by omega), pk_un (by omega), pk_un (by omega), pk_un (by omega)]; exact m6 j hj
    · rw [pk_un (by omega), pk_un (by omega), pk_un (by omega), pk_un (by omega)]; exact m7 i hi
  · rw [xf_setProcessNoise, yf_setProcessNoise, if_neg hr, if_neg hr]
    exact ⟨rfl, sim_fl h 0⟩
theorem sim_miss {X : tk_X} {Y : tk_Y} (h : RX X Y) (y : Int32) : SIM (xf_miss X y) (yf_miss Y y) := by
  by_cases hr : tk_rng 0 3 y
  · rw [xf_miss, yf_miss, if_pos hr, if_pos hr]
    obtain ⟨m1, m2, m3, m4, m5, m6, m7⟩ := h.2.2.2.1
    have hI := h.2.2.2.2.1
    have e1 : X.2.2.1.2.2.2.2.2.2.1 + 1 = Y.2.1 21 + 1 := by rw [m4.2.2]
    refine ⟨e1, sim_sv h ⟨fun k hk => ?_, m2, m3, ⟨m4.1, m4.2.1, e1⟩, m5, fun j hj => ?_, fun i hi => ?_⟩ hI⟩
    · rw [pk_un (by omega)]; exact m1 k hk
    · rw [pk_un (by omega), pk_un (by omega)]; exact m6 j hj
    · rw [pk_un (by omega), pk_un (by omega)]; exact m7 i hi
  · rw [xf_miss, yf_miss, if_neg hr, if_neg hr]
    exact ⟨rfl, sim_fl h 0⟩
theorem tk_kind {y : Int32} : (y = 0 ∨ y = 1) ↔ tk_rng 0 1 y := by
  constructor
  · rintro (rfl | rfl) <;> exact ⟨by decide, by decide⟩
  · rintro ⟨h1, h2⟩
    rw [Int32.le_iff_toInt_le] at h1 h2
    have e0 : (0 : Int32).toInt = 0 := rfl
    have e1 : (1 : Int32).toInt = 1 := rfl
    rcases (show y.toInt = 0 ∨ y.toInt = 1 by omega) with z | z
    · exact Or.inl (Int32.toInt_inj.mp z)
    · exact Or.inr (Int32.toInt_inj.mp z)
theorem sim_setSensor {X : tk_X} {Y : tk_Y} (h : RX X Y) (x y z : Int32) : SIM (xf_setSensor X x y z) (yf_setSensor Y x y z) := by
  by_cases hr : tk_rng 0 3 x ∧ (y = 0 ∨ y = 1) ∧ tk_rng 1 40960000 z
  · have hr2 : tk_rng 0 3 x ∧ tk_rng 0 1 y ∧ tk_rng 1 40960000 z := ⟨hr.1, tk_kind.mp hr.2.1, hr.2.2⟩
    rw [xf_setSensor, yf_setSensor, if_pos hr, if_pos hr2]
    obtain ⟨m1, m2, m3, m4, m5, m6, m7⟩ := h.2.2.2.1
    obtain ⟨i1, i2, i3, i4, i5, i6⟩ := h.2.2.2.2.1
    have hx := (tk_rng_nat hr.1).2
    generalize x.toNatClampNeg = c at hx ⊢
    have g : ∀ k, k ≠ 8 + c → k ≠ 12 + c → upd (upd Y.2.1 (8 + c) y) (12 + c) z k = Y.2.1 k := fun k a b => by rw [pk_un b, pk_un a]
    refine ⟨(m6 c hx).2, sim_sv h ⟨fun k hk => ?_, ?_, ?_, ?_, ?_, fun j hj => ?_, fun i hi => ?_⟩ ⟨i1, i2, i3, i4, fun j hj => ?_, i6⟩⟩
    · rw [g k (by omega) (by omega)]; exact m1 k hk
    · rw [g 16 (by omega) (by omega), g 17 (by omega) (by omega), g 18 (by omega) (by omega)]; exact m2
    · rw [g 5 (by omega) (by omega), g 6 (by omega) (by omega), g 7 (by omega) (by omega)]; exact m3
    · rw [g 19 (by omega) (by omega), g 20 (by omega) (by omega), g 21 (by omega) (by omega)]; exact m4
    · rw [g 22 (by omega) (by omega)]; exact m5
    · show upd X.2.2.1.2.2.2.2.2.2.2.1 c y j = _ ∧ upd X.2.2.1.2.2.2.2.2.2.2.2.1 c z j = _
      by_cases e : j = c
      · subst e
        rw [pk_us, pk_us, pk_un (by omega), pk_us, pk_us]
        exact ⟨rfl, rfl⟩
      · rw [pk_un e, pk_un e, g (8 + j) (by omega) (by omega), g (12 + j) (by omega) (by omega)]
        exact m6 j hj
    · have hi : i < X.2.2.1.2.2.2.2.2.2.2.2.2.2.2 := hi
      rw [g _ (by omega) (by omega), g _ (by omega) (by omega)]; exact m7 i hi
    · show tk_rv (upd X.2.2.1.2.2.2.2.2.2.2.2.1 c z j)
      by_cases e : j = c
      · subst e
        rw [pk_us]
        exact hr.2.2
      · rw [pk_un e]
        exact i5 j hj
  · have hr2 : ¬ (tk_rng 0 3 x ∧ tk_rng 0 1 y ∧ tk_rng 1 40960000 z) := fun w => hr ⟨w.1, tk_kind.mpr w.2.1, w.2.2⟩
    rw [xf_setSensor, yf_setSensor, if_neg hr, if_neg hr2]
    exact ⟨rfl, sim_fl h 0⟩
theorem sim_errorCount {X : tk_X} {Y : tk_Y} (h : RX X Y) (y : Int32) : SIM (xf_errorCount X y) (yf_errorCount Y y) := by
  by_cases hr : tk_rng 0 2 y
  · rw [xf_errorCount, yf_errorCount, if_pos hr, if_pos hr]
    exact ⟨by rw [h.2.2.1], h⟩
  · rw [xf_errorCount, yf_errorCount, if_neg hr, if_neg hr]
    exact ⟨rfl, sim_fl h 0⟩
