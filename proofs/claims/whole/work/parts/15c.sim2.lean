theorem ag_co_rb {e f : Nat → Int64} (h : ag5 e f) (kd : Int32) (z r g : Int64) : co_rb e kd z r g = co_rb f kd z r g := by
  rw [co_rb, co_rb, ag_co_p h, ag_co_m h]
theorem sim_correct {X : tk_X} {Y : tk_Y} (h : RX X Y) {E : Nat → Int64} (hE : ag5 X.2.2.1.1 E) (x y : Int32) : SIM (xf_correct X x y) (yf_correct Y X.2.2.1.2.2.2.2.2.2.2.2.2.2.2 E x y) := by
  by_cases hr : tk_rng 0 3 x ∧ tk_rng (-40960000) 40960000 y
  · obtain ⟨m1, m2, m3, m4, m5, m6, m7⟩ := h.2.2.2.1
    obtain ⟨i1, i2, i3, i4, i5, i6⟩ := h.2.2.2.2.1
    have hx := (tk_rng_nat hr.1).2
    have ek : Y.2.1 (8 + x.toNatClampNeg) = X.2.2.1.2.2.2.2.2.2.2.1 x.toNatClampNeg := (m6 _ hx).1.symm
    have ev : Y.2.1 (12 + x.toNatClampNeg) = X.2.2.1.2.2.2.2.2.2.2.2.1 x.toNatClampNeg := (m6 _ hx).2.symm
    have q7 : Y.2.1 7 = X.2.2.1.2.2.2.1 := m3.2.2.symm
    rw [xf_correct, yf_correct, if_pos hr, if_pos hr, ek, ev, q7, ← ag_co_rb hE, ← ag_co_ok hE]
    generalize X.2.2.1.2.2.2.2.2.2.2.1 x.toNatClampNeg = kd
    generalize (X.2.2.1.2.2.2.2.2.2.2.2.1 x.toNatClampNeg).toInt64 = vv
    have hm : tk_in (co_m X.2.2.1.1 kd) = true := co_m_in i2
    have hb := inn_f hr.2 hm
    have em : co_m E kd = co_m X.2.2.1.1 kd := (ag_co_m hE kd).symm
    by_cases hj : co_rb X.2.2.1.1 kd y.toInt64 vv X.2.2.1.2.2.2.1.toInt64 = true
    · rw [if_pos hj, if_pos hj, em]
      generalize hyy : y.toInt64 - co_m X.2.2.1.1 kd = yy at hb
      have gl : ∀ k, k < 16 → upd (upd (tk_rec (tk_put Y.2.1 (tk_y E yy)) X.2.2.1.2.2.2.2.2.2.2.2.2.2.2 x y) 16 (tk_y E yy 5).toInt32) 20 (tk_rec (tk_put Y.2.1 (tk_y E yy)) X.2.2.1.2.2.2.2.2.2.2.2.2.2.2 x y 20 + 1) k = tk_put Y.2.1 (tk_y E yy) k := fun k a => by rw [pk_un (by omega), pk_un (by omega), rec_lo (by omega)]
      have gh : ∀ k, 16 < k → k ≠ 20 → upd (upd (tk_rec (tk_put Y.2.1 (tk_y E yy)) X.2.2.1.2.2.2.2.2.2.2.2.2.2.2 x y) 16 (tk_y E yy 5).toInt32) 20 (tk_rec (tk_put Y.2.1 (tk_y E yy)) X.2.2.1.2.2.2.2.2.2.2.2.2.2.2 x y 20 + 1) k = tk_rec (tk_put Y.2.1 (tk_y E yy)) X.2.2.1.2.2.2.2.2.2.2.2.2.2.2 x y k := fun k a b => by rw [pk_un b, pk_un (by omega)]
      refine ⟨rfl, sim_sv h ⟨fun k hk => ?_, ⟨?_, ?_, ?_⟩, ?_, ⟨?_, ?_, ?_⟩, ?_, fun j hj => ?_, fun i hi => ⟨?_, ?_⟩⟩ ⟨?_, ?_, i3, i4, i5, fun i hi => ?_⟩⟩
      · rw [gl k (by omega), put_lo _ _ k hk]
        have ey : ∀ (f : Nat → Int64), tk_y f yy k = f k := fun f => by rcases (show k = 0 ∨ k = 1 ∨ k = 2 ∨ k = 3 ∨ k = 4 by omega) with rfl | rfl | rfl | rfl | rfl <;> rfl
        rw [ey]
        show tk_y X.2.2.1.1 yy k = _
        rw [ey, ← hE k hk, tk_fit (i2 k hk)]
      · rw [pk_un (by decide), pk_us]
        exact hb.symm
      · rw [gh 17 (by decide) (by decide), rec_lo (by decide), put_hi (by decide)]
        exact m2.2.1
      · rw [gh 18 (by decide) (by decide), rec_lo (by decide), put_hi (by decide)]
        exact m2.2.2
      · rw [gl 5 (by decide), gl 6 (by decide), gl 7 (by decide), put_hi (by decide), put_hi (by decide), put_hi (by decide)]
        exact m3
      · rw [gh 19 (by decide) (by decide), rec_lo (by decide), put_hi (by decide)]
        exact m4.1
      · rw [pk_us, rec_lo (by decide), put_hi (by decide), ← m4.2.1]
      · rw [gh 21 (by decide) (by decide), rec_lo (by decide), put_hi (by decide)]
        exact m4.2.2
      · rw [gh 22 (by decide) (by decide), rec_22]
      · rw [gl (8 + j) (by omega), gl (12 + j) (by omega), put_hi (by omega), put_hi (by omega)]
        exact m6 j hj
      · rw [gh _ (by omega) (by omega)]
        exact rec_S i1 (fun a ha => by rw [put_hi (by omega)]; exact (m7 a ha).1) i hi
      · rw [gh _ (by omega) (by omega)]
        exact rec_G i1 (fun a ha => by rw [put_hi (by omega)]; exact (m7 a ha).2) i hi
      · show tk_sz _ ≤ 24
        unfold tk_sz
        split <;> omega
      · exact tk_five (i2 0 (by decide)) (i2 1 (by decide)) (i2 2 (by decide)) (i2 3 (by decide)) (i2 4 (by decide))
      · exact app_hist i1 i6 (Or.inr hr) i hi
    · rw [if_neg hj, if_neg hj]
      by_cases ho : co_ok X.2.2.1.1 kd y.toInt64 vv = true
      · rw [if_pos ho, if_pos ho]
        have hag := ag_co_e hE kd y.toInt64 vv
        obtain ⟨ha, hk6, hk7⟩ := co_all ho
        have hiv := tk_iv_co ho
        have h5 : co_e X.2.2.1.1 kd y.toInt64 vv 5 = y.toInt64 - co_m X.2.2.1.1 kd := co_e_5 _ _ _ _
        rw [← h5] at hb
        generalize co_e X.2.2.1.1 kd y.toInt64 vv = e' at hag ha hk6 hk7 hiv hb ⊢
        generalize co_e E kd y.toInt64 vv = E' at hag ⊢
        generalize hs0 : tk_rec (tk_put Y.2.1 E') X.2.2.1.2.2.2.2.2.2.2.2.2.2.2 x y = s0
        have r0 : ∀ k, k < 22 → s0 k = tk_put Y.2.1 E' k := fun k hk => by rw [← hs0, rec_lo hk]
        have gl : ∀ k, k < 16 → upd (upd (upd (upd s0 16 (E' 5).toInt32) 17 (E' 6).toInt32) 18 (E' 7).toInt32) 19 (s0 19 + 1) k = tk_put Y.2.1 E' k := fun k a => by rw [pk_un (by omega), pk_un (by omega), pk_un (by omega), pk_un (by omega), r0 k (by omega)]
        have gh : ∀ k, 19 < k → upd (upd (upd (upd s0 16 (E' 5).toInt32) 17 (E' 6).toInt32) 18 (E' 7).toInt32) 19 (s0 19 + 1) k = s0 k := fun k a => by rw [pk_un (by omega), pk_un (by omega), pk_un (by omega), pk_un (by omega)]
        refine ⟨rfl, sim_sv h ⟨fun k hk => ?_, ⟨?_, ?_, ?_⟩, ?_, ⟨?_, ?_, ?_⟩, ?_, fun j hj => ?_, fun i hi => ⟨?_, ?_⟩⟩ ⟨?_, ha, hiv, i4, i5, fun i hi => ?_⟩⟩
        · rw [gl k (by omega), put_lo _ _ k hk, ← hag k (by omega)]
          exact (tk_fit (ha k hk)).symm
        · rw [pk_un (by decide), pk_un (by decide), pk_un (by decide), pk_us, ← hag 5 (by decide)]
          exact hb.symm
        · rw [pk_un (by decide), pk_un (by decide), pk_us, ← hag 6 (by decide)]
          exact (tk_fit hk6).symm
        · rw [pk_un (by decide), pk_us, ← hag 7 (by decide)]
          exact (tk_fit hk7).symm
        · rw [gl 5 (by decide), gl 6 (by decide), gl 7 (by decide), put_hi (by decide), put_hi (by decide), put_hi (by decide)]
          exact m3
        · rw [pk_us, r0 19 (by decide), put_hi (by decide), ← m4.1]
        · rw [gh 20 (by decide), r0 20 (by decide), put_hi (by decide)]
          exact m4.2.1
        · rw [gh 21 (by decide), r0 21 (by decide), put_hi (by decide)]
          exact m4.2.2
        · rw [gh 22 (by decide), ← hs0, rec_22]
        · rw [gl (8 + j) (by omega), gl (12 + j) (by omega), put_hi (by omega), put_hi (by omega)]
          exact m6 j hj
        · rw [gh _ (by omega), ← hs0]
          exact rec_S i1 (fun a ha => by rw [put_hi (by omega)]; exact (m7 a ha).1) i hi
        · rw [gh _ (by omega), ← hs0]
          exact rec_G i1 (fun a ha => by rw [put_hi (by omega)]; exact (m7 a ha).2) i hi
        · show tk_sz _ ≤ 24
          unfold tk_sz
          split <;> omega
        · exact app_hist i1 i6 (Or.inr hr) i hi
      · rw [if_neg ho, if_neg ho]
        exact ⟨rfl, sim_fl h 2⟩
  · rw [xf_correct, yf_correct, if_neg hr, if_neg hr]
    exact ⟨rfl, sim_fl h 0⟩
