abbrev tk_jv (e : Nat → Int64) : Prop := tk_iv e ∧ tk_in (e 1) = true
theorem tk_jv_ad {e : Nat → Int64} {u q w : Int64} (h : ad_ok e u q w = true) : tk_jv (ad_e e u q w) := ⟨tk_iv_ad h, (tk_mok_spec h).2.1⟩
theorem tk_jv_co {e : Nat → Int64} {kd : Int32} {z r : Int64} (k : co_ok e kd z r = true) : tk_jv (co_e e kd z r) := by
  refine ⟨tk_iv_co k, ?_⟩
  by_cases h : kd = 0
  · rw [co_ok0 h] at k
    rw [co_e0 h]
    exact (tk_mok_spec (co_ok_mok k)).2.1
  · rw [co_ok1 h] at k
    rw [co_e1 h]
    exact (tk_mok_spec (co_ok_mok k)).2.1
theorem tk_c0 {e : Nat → Int64} {w : Int32} (h : tk_iv e) (hw : tk_rng 0 4096000 w) : 0 ≤ e 4 + w.toInt64 := by
  obtain ⟨h1, h2⟩ := h.2
  obtain ⟨h3, h4⟩ := hw
  rw [Int32.le_iff_toInt_le] at h3 h4
  rw [Int64.le_iff_toInt_le] at h1 h2
  rw [Int64.le_iff_toInt_le, Int64.toInt_add, Int32.toInt_toInt64]
  have e0 : (0 : Int64).toInt = 0 := rfl
  have e2 : (1000000000 : Int64).toInt = 1000000000 := by decide
  have e3 : (4096000 : Int32).toInt = 4096000 := by decide
  have e4 : (0 : Int32).toInt = 0 := rfl
  rw [Int.bmod_eq_of_le_mul_two] <;> omega
def tk_se (s : Nat → Int32) : Nat → Int64 := tk_s5 s (fun _ => 0)
theorem tk_abs_n {y : Int64} (h : y < 0) : tk_abs y = -y := by
  rw [tk_abs, if_neg (fun z => by rw [Int64.lt_iff_toInt_lt] at h z; omega)]
theorem tk_abs_p {y : Int64} (h : ¬ y < 0) : tk_abs y = y := by
  by_cases z : 0 < y
  · rw [tk_abs, if_pos z]
  · have e : y = 0 := by
      apply Int64.toInt_inj.mp
      rw [Int64.lt_iff_toInt_lt] at h z
      have : (0 : Int64).toInt = 0 := rfl
      omega
    rw [e]
    rfl

theorem izX4_goesOn_4 : ∀ w ∈ wsX40, w ∈ wsX4_goesOn := fun _ h => List.mem_cons_of_mem _ (List.mem_append_right _ h)
set_option maxHeartbeats 4000000 in
set_option maxRecDepth 100000 in
/-- goesOn -/
theorem k_X4_goesOn (l : Launch) (D : va_G) (cI cM cJ : ClassId) (sz : Nat) (h sa pa er na : Nat) (z : Int32) (x1 x2 x3 hs : Int64) (s : Nat → Int32) (e : Nat → Int64) (m : Nat) (hm1 : m ≤ 100) (hj : tk_jv (tk_s5 s e)) (hw : tk_rng 0 4096000 (s 6)) : Met l yX4_goesOn wsX4_goesOn ({ frames := 2, cells := 0, slots := 0, locals := 51 }) (va_Pc [.ref h, .int (nI m)] (KP D (tk_T cI cM cJ) ([(h, .inr (4, [.ref sa, .ref pa, .int z, .ref er, .ref na, .long x1, .long x2, .long x3, .long hs])), (sa, .inl (cI, 71, .inl s)), (na, .inl (cJ, 5, .inr (.inl e)))]) sz)) (va_Qi (fun (r : Int32) (u : Nat → Int64) => (ad_n (s 5).toInt64 (s 6).toInt64 m (tk_s5 s e) = some u ∧ r = 1) ∨ (ad_n (s 5).toInt64 (s 6).toInt64 m (tk_s5 s e) = none ∧ r = 0)) (fun u zt => KB D ([(h, .inr (4, [.ref sa, .ref pa, .int z, .ref er, .ref na, .long x1, .long x2, .long x3, .long hs])), (sa, .inl (cI, 71, .inl s)), (na, .inl (cJ, 5, .inr (.inl e)))]) ([(h, .inr (4, [.ref sa, .ref pa, .int z, .ref er, .ref na, .long x1, .long x2, .long x3, .long hs])), (sa, .inl (cI, 71, .inl s)), (na, .inl (cJ, 5, .inr (.inl u)))]) sz zt) (va_A ([(h, .inr (4, [.ref sa, .ref pa, .int z, .ref er, .ref na, .long x1, .long x2, .long x3, .long hs])), (sa, .inl (cI, 71, .inl s)), (na, .inl (cJ, 5, .inr (.inl e)))]) sz)) 0 0 (va_A ([(h, .inr (4, [.ref sa, .ref pa, .int z, .ref er, .ref na, .long x1, .long x2, .long x3, .long hs])), (sa, .inl (cI, 71, .inl s)), (na, .inl (cJ, 5, .inr (.inl e)))]) sz) := by
  refine Met.ofW (cc := cX4_goesOn) (maxL := 4) (ret := (some .boolean)) (by decide) rfl ?_
  intro zp ze zs zm zargs zbelow zmeth zc zs1 B hml hv
  obtain ⟨rfl, hsz, hP, hK, hD0, hN⟩ := hv
  have hx := B.exec
  have hb := B.bytes
  have hr := B.returns
  have hts := atoms_spec (ws := wsX4_goesOn) B.pre
  have hm : ∀ (i : Nat) (w : Cond), wsX4_goesOn[i]? = some w → w.before _ zs = true := fun i w h => hts w (List.mem_of_getElem? h)
  have hown : zs.vm.findClass RX4 = some zm.cls := findClass_of_methodNamed B.named
  have hlocks := B.notSynchronized
  subst hsz
  have hD := hD0.self (sz := zs.heap.size)
  generalize hAe : va_A ([(h, .inr (4, [.ref sa, .ref pa, .int z, .ref er, .ref na, .long x1, .long x2, .long x3, .long hs])), (sa, .inl (cI, 71, .inl s)), (na, .inl (cJ, 5, .inr (.inl e)))]) zs.heap.size = A at hD ⊢
  have hA : ∀ q : Nat, zs.heap.size ≤ q → A q := fun q h => by rw [← hAe]; exact Or.inr h
  have hS : va_S A zs.heap zs.heap [] := va_S.rf
  have hP : va_P D vwCl ([(h, .inr (4, [.ref sa, .ref pa, .int z, .ref er, .ref na, .long x1, .long x2, .long x3, .long hs])), (sa, .inl (cI, 71, .inl s)), (na, .inl (cJ, 5, .inr (.inl e)))]) zs.heap := hP
  have hl := lv_entry ([.ref h, .int (nI m)]) (n := 4) (Nat.le_of_ble_eq_true rfl)
  rw [lg_entry_eq]
  generalize (lg_sl ([.ref h, .int (nI m)]) ++ List.replicate (4 - (lg_sl ([.ref h, .int (nI m)])).length) Slot.unset).toArray = ls at hl ⊢
  have hl : lv_has ls 4 [(0, .ref h), (1, .int (nI m))] := hl
  refine lv_aload_n hx hb dX4_goesOn_0 rfl (lv_at hl 0 rfl) ?_
  refine kc_v (wc := [(h, .inr (4, [.ref sa, .ref pa, .int z, .ref er, .ref na, .long x1, .long x2, .long x3, .long hs])), (sa, .inl (cI, 71, .inl s)), (na, .inl (cJ, 5, .inr (.inl e)))]) (wr := []) (va_runV (As := []) (rest := []) ⟨hx, hb, hml, hown, hts⟩ (k_X4_take l D cI cM cJ _ h sa pa er na z x1 x2 x3 hs s e) (cwV 0 hts gX4_goesOn_X4_take rfl rfl rfl (by decide +kernel) ⟨Nat.le_of_ble_eq_true rfl, Nat.le_of_ble_eq_true rfl⟩) (kp_preV (q := (RX4, TX4, 9)) (wc := [(h, .inr (4, [.ref sa, .ref pa, .int z, .ref er, .ref na, .long x1, .long x2, .long x3, .long hs])), (sa, .inl (cI, 71, .inl s)), (na, .inl (cJ, 5, .inr (.inl e)))]) (wr := []) hN hK hP hD 0 rfl rfl) rfl rfl hl.1 rfl (lv_room (Nat.le_of_ble_eq_true rfl)) dX4_goesOn_1 ⟨Nat.le_of_ble_eq_true rfl, Nat.le_of_ble_eq_true rfl⟩) hP hD hS hA (fun u_1 H locs p_1 hP hD hS => ?_)
  have hP : va_P D vwCl ([(h, .inr (4, [.ref sa, .ref pa, .int z, .ref er, .ref na, .long x1, .long x2, .long x3, .long hs])), (sa, .inl (cI, 71, .inl s)), (na, .inl (cJ, 5, .inr (.inl (tk_s5 s e))))]) H := hP
  have hD : va_D A ([(h, .inr (4, [.ref sa, .ref pa, .int z, .ref er, .ref na, .long x1, .long x2, .long x3, .long hs])), (sa, .inl (cI, 71, .inl s)), (na, .inl (cJ, 5, .inr (.inl (tk_s5 s e))))]) := hD
  refine lv_iconst (v := 1) hx hb dX4_goesOn_4 (by decide) ?_
  refine lv_istore_n (lv' := [(2, .int 1), (0, .ref h), (1, .int (nI m))]) hx hb dX4_goesOn_5 rfl hl (by decide) rfl (fun ls hl => ?_)
  refine lv_iconst (v := 0) hx hb dX4_goesOn_6 (by decide) ?_
  refine lv_istore_n (lv' := [(3, .int 0), (2, .int 1), (0, .ref h), (1, .int (nI m))]) hx hb dX4_goesOn_7 rfl hl (by decide) rfl (fun ls hl => ?_)
  refine kl_loop (fun (k : Nat) (H : Heap) (locs : List Loc) (ls : Array Slot) => ∃ (i : Nat) (E : Nat → Int64) (b : Int32), (k + i = m + 1) ∧ (i ≤ m + 1) ∧ (tk_jv E) ∧ ((b = 1 ∧ i ≤ m ∧ ad_n (s 5).toInt64 (s 6).toInt64 (k - 1) E = ad_n (s 5).toInt64 (s 6).toInt64 m (tk_s5 s e)) ∨ (b = 0 ∧ ad_n (s 5).toInt64 (s 6).toInt64 m (tk_s5 s e) = none)) ∧ va_P D vwCl ([(h, .inr (4, [.ref sa, .ref pa, .int z, .ref er, .ref na, .long x1, .long x2, .long x3, .long hs])), (sa, .inl (cI, 71, .inl s)), (na, .inl (cJ, 5, .inr (.inl E)))]) H ∧ va_D A ([(h, .inr (4, [.ref sa, .ref pa, .int z, .ref er, .ref na, .long x1, .long x2, .long x3, .long hs])), (sa, .inl (cI, 71, .inl s)), (na, .inl (cJ, 5, .inr (.inl E)))]) ∧ va_S A zs.heap H locs ∧ lv_has ls 4 [(3, .int (nI i)), (2, .int b), (0, .ref h), (1, .int (nI m))]) (m + 1) ⟨0, tk_s5 s e, 1, by omega, by omega, hj, Or.inl ⟨rfl, by omega, rfl⟩, hP, hD, hS, lv_sub hl [0, 1, 2, 3] rfl⟩ ?_
  rintro k H locs ls ⟨i, E, b, hk, hi, hI, hB, hP, hD, hS, hl⟩ ih
  rcases hB with ⟨rfl, hi2, hB⟩ | ⟨rfl, hB⟩
  · skip
    refine lv_iload_n hx hb dX4_goesOn_8 rfl (lv_at hl 0 rfl) ?_
    refine lv_iload_n hx hb dX4_goesOn_9 rfl (lv_at hl 3 rfl) ?_
    refine lv_icmp_ge (tgt := 36) hx hb dX4_goesOn_10 (by decide) (fun c_2 => ?_) (fun c_2 => ?_)
    · have c_2 := (nI_leI (a := m) (b := i) (by omega) (by omega)).mp c_2
      refine lv_iload_n hx hb dX4_goesOn_36 rfl (lv_at hl 1 rfl) ?_
      exact W.zret (v := 1) hx hb hr rfl (fun zt ht hW => ⟨⟨1, E, rfl, Or.inl ⟨by rw [← hB, show k - 1 = 0 from by omega]; rfl, rfl⟩, KB.of hAe (by rw [ht]; exact hP) hD⟩, hS.F ht⟩) hS.2.2 dX4_goesOn_37
    · have c_2 := mt (nI_leI (a := m) (b := i) (by omega) (by omega)).mpr c_2
      refine lv_iload_n hx hb dX4_goesOn_13 rfl (lv_at hl 1 rfl) ?_
      refine lv_if_eq (tgt := 36) hx hb dX4_goesOn_14 (by decide) (fun c_3 => ?_) (fun c_3 => ?_)
      · exact absurd c_3 (by decide)
      · skip
        refine lv_aload_n hx hb dX4_goesOn_17 rfl (lv_at hl 2 rfl) ?_
        refine lv_iconst (v := 0) hx hb dX4_goesOn_18 (by decide) ?_
        refine lv_aload_n hx hb dX4_goesOn_19 rfl (lv_at hl 2 rfl) ?_
        refine va_get (D := D) (ci := 4) (v := .ref sa) (C := RX4) (T := TX4) (N := 9) hx hb hts izX4_goesOn_4 hown hK hP 0 rfl rfl 0 (by decide) (hm 1 (.fieldLink RX4 7 "TankFilterModel" "s" "[I") rfl) (fun _ h9 => h9) rfl dX4_goesOn_20 ?_
        refine lv_bipush (v := 6) hx hb dX4_goesOn_23 (by decide) ?_
        refine ka_ild (D := D) (j := 6) (n := 71) (f := s) hx hb hK hP 1 0 rfl rfl (rfl) (by decide) (by decide) dX4_goesOn_25 ?_
        refine kc_i (wc := [(h, .inr (4, [.ref sa, .ref pa, .int z, .ref er, .ref na, .long x1, .long x2, .long x3, .long hs])), (sa, .inl (cI, 71, .inl s)), (na, .inl (cJ, 5, .inr (.inl E)))]) (wr := []) (va_runV (As := [.int 0, .int (s 6)]) (rest := []) ⟨hx, hb, hml, hown, hts⟩ (k_X4_predicts l D cI cM cJ _ h sa pa er na z x1 x2 x3 hs s E 0 (s 6) (hI.2) (tk_c0 hI.1 hw)) (cwV 2 hts gX4_goesOn_X4_predicts rfl rfl rfl (by decide +kernel) ⟨Nat.le_of_ble_eq_true rfl, Nat.le_of_ble_eq_true rfl⟩) (kp_preV (q := (RX4, TX4, 9)) (wc := [(h, .inr (4, [.ref sa, .ref pa, .int z, .ref er, .ref na, .long x1, .long x2, .long x3, .long hs])), (sa, .inl (cI, 71, .inl s)), (na, .inl (cJ, 5, .inr (.inl E)))]) (wr := []) hN hK hP hD 0 rfl rfl) rfl rfl hl.1 rfl (lv_room (Nat.le_of_ble_eq_true rfl)) dX4_goesOn_26 ⟨Nat.le_of_ble_eq_true rfl, Nat.le_of_ble_eq_true rfl⟩) hP hD hS hA (fun r_4 u_4 H locs p_4 hP hD hS => ?_)
        rcases p_4 with ⟨p_4, rfl, rfl⟩ | ⟨p_4, rfl, rfl⟩
        · rw [tk_z64] at p_4 hP hD
          have hP : va_P D vwCl ([(h, .inr (4, [.ref sa, .ref pa, .int z, .ref er, .ref na, .long x1, .long x2, .long x3, .long hs])), (sa, .inl (cI, 71, .inl s)), (na, .inl (cJ, 5, .inr (.inl (ad_e E 0 (s 5).toInt64 (s 6).toInt64))))]) H := hP
          have hD : va_D A ([(h, .inr (4, [.ref sa, .ref pa, .int z, .ref er, .ref na, .long x1, .long x2, .long x3, .long hs])), (sa, .inl (cI, 71, .inl s)), (na, .inl (cJ, 5, .inr (.inl (ad_e E 0 (s 5).toInt64 (s 6).toInt64))))]) := hD
          refine lv_istore_n (lv' := [(2, .int 1), (3, .int (nI i)), (0, .ref h), (1, .int (nI m))]) hx hb dX4_goesOn_29 rfl hl (by decide) rfl (fun ls hl => ?_)
          refine lv_iinc (v := nI (i + 1)) (lv' := [(3, .int (nI (i + 1))), (2, .int 1), (0, .ref h), (1, .int (nI m))]) hx hb dX4_goesOn_30 hl (k := 1) rfl (nI_1 _) (by decide) rfl (fun ls hl => ?_)
          refine lv_goto (tgt := 8) hx hb dX4_goesOn_33 (by decide) ?_
          exact ih (k - 1) _ _ _ (by omega) ⟨i + 1, ad_e E 0 (s 5).toInt64 (s 6).toInt64, 1, by omega, by omega, tk_jv_ad p_4, Or.inl ⟨rfl, by omega, (ad_n_t p_4 (by omega)).symm.trans hB⟩, hP, hD, hS, lv_sub hl [0, 1, 2, 3] rfl⟩
        · rw [tk_z64] at p_4
          have hP : va_P D vwCl ([(h, .inr (4, [.ref sa, .ref pa, .int z, .ref er, .ref na, .long x1, .long x2, .long x3, .long hs])), (sa, .inl (cI, 71, .inl s)), (na, .inl (cJ, 5, .inr (.inl E)))]) H := hP
          have hD : va_D A ([(h, .inr (4, [.ref sa, .ref pa, .int z, .ref er, .ref na, .long x1, .long x2, .long x3, .long hs])), (sa, .inl (cI, 71, .inl s)), (na, .inl (cJ, 5, .inr (.inl E)))]) := hD
          refine lv_istore_n (lv' := [(2, .int 0), (3, .int (nI i)), (0, .ref h), (1, .int (nI m))]) hx hb dX4_goesOn_29 rfl hl (by decide) rfl (fun ls hl => ?_)
          refine lv_iinc (v := nI (i + 1)) (lv' := [(3, .int (nI (i + 1))), (2, .int 0), (0, .ref h), (1, .int (nI m))]) hx hb dX4_goesOn_30 hl (k := 1) rfl (nI_1 _) (by decide) rfl (fun ls hl => ?_)
          refine lv_goto (tgt := 8) hx hb dX4_goesOn_33 (by decide) ?_
          exact ih (k - 1) _ _ _ (by omega) ⟨i + 1, E, 0, by omega, by omega, hI, Or.inr ⟨rfl, by rw [← hB]; exact ad_n_f p_4 (by omega)⟩, hP, hD, hS, lv_sub hl [0, 1, 2, 3] rfl⟩
  · skip
    refine lv_iload_n hx hb dX4_goesOn_8 rfl (lv_at hl 0 rfl) ?_
    refine lv_iload_n hx hb dX4_goesOn_9 rfl (lv_at hl 3 rfl) ?_
    refine lv_icmp_ge (tgt := 36) hx hb dX4_goesOn_10 (by decide) (fun c_5 => ?_) (fun c_5 => ?_)
    · have c_5 := (nI_leI (a := m) (b := i) (by omega) (by omega)).mp c_5
      refine lv_iload_n hx hb dX4_goesOn_36 rfl (lv_at hl 1 rfl) ?_
      exact W.zret (v := 0) hx hb hr rfl (fun zt ht hW => ⟨⟨0, E, rfl, Or.inr ⟨hB, rfl⟩, KB.of hAe (by rw [ht]; exact hP) hD⟩, hS.F ht⟩) hS.2.2 dX4_goesOn_37
    · have c_5 := mt (nI_leI (a := m) (b := i) (by omega) (by omega)).mpr c_5
      refine lv_iload_n hx hb dX4_goesOn_13 rfl (lv_at hl 1 rfl) ?_
      refine lv_if_eq (tgt := 36) hx hb dX4_goesOn_14 (by decide) (fun c_6 => ?_) (fun c_6 => ?_)
      · skip
        refine lv_iload_n hx hb dX4_goesOn_36 rfl (lv_at hl 1 rfl) ?_
        exact W.zret (v := 0) hx hb hr rfl (fun zt ht hW => ⟨⟨0, E, rfl, Or.inr ⟨hB, rfl⟩, KB.of hAe (by rw [ht]; exact hP) hD⟩, hS.F ht⟩) hS.2.2 dX4_goesOn_37
      · exact absurd c_6 (by decide)

def tk_yS (s : Nat → Int32) : Nat → Int32 := fun j => s (23 + 2 * j)
def tk_yG (s : Nat → Int32) : Nat → Int32 := fun j => s (23 + 2 * j + 1)
def tk_yK (s : Nat → Int32) : Nat → Int32 := fun j => s (8 + j)
def tk_yV (s : Nat → Int32) : Nat → Int32 := fun j => s (12 + j)

theorem izX4_hasReading_4 : ∀ w ∈ wsX40, w ∈ wsX4_hasReading := fun _ h => List.mem_cons_of_mem _ (List.mem_append_right _ h)
set_option maxHeartbeats 4000000 in
set_option maxRecDepth 100000 in
/-- hasReading -/
theorem k_X4_hasReading (l : Launch) (D : va_G) (cI cM cJ : ClassId) (sz : Nat) (h sa pa er na : Nat) (z : Int32) (x1 x2 x3 hs : Int64) (s : Nat → Int32) (n : Nat) (hn : n ≤ 24) (h22 : s 22 = nI n) : Met l yX4_hasReading wsX4_hasReading ({ frames := 0, cells := 0, slots := 0, locals := 0 }) (va_Pc [.ref h] (KP D (tk_T cI cM cJ) ([(h, .inr (4, [.ref sa, .ref pa, .int z, .ref er, .ref na, .long x1, .long x2, .long x3, .long hs])), (sa, .inl (cI, 71, .inl s))]) sz)) (va_Qi (fun (r : Int32) (u : Unit) => (tk_hb (tk_yS s) n = true ∧ r = 1) ∨ (tk_hb (tk_yS s) n = false ∧ r = 0)) (fun u zt => KB D ([(h, .inr (4, [.ref sa, .ref pa, .int z, .ref er, .ref na, .long x1, .long x2, .long x3, .long hs])), (sa, .inl (cI, 71, .inl s))]) ([(h, .inr (4, [.ref sa, .ref pa, .int z, .ref er, .ref na, .long x1, .long x2, .long x3, .long hs])), (sa, .inl (cI, 71, .inl s))]) sz zt) (va_A ([(h, .inr (4, [.ref sa, .ref pa, .int z, .ref er, .ref na, .long x1, .long x2, .long x3, .long hs])), (sa, .inl (cI, 71, .inl s))]) sz)) 0 0 (va_A ([(h, .inr (4, [.ref sa, .ref pa, .int z, .ref er, .ref na, .long x1, .long x2, .long x3, .long hs])), (sa, .inl (cI, 71, .inl s))]) sz) := by
  refine Met.ofW (cc := cX4_hasReading) (maxL := 3) (ret := (some .boolean)) (by decide) rfl ?_
  intro zp ze zs zm zargs zbelow zmeth zc zs1 B hml hv
  obtain ⟨rfl, hsz, hP, hK, hD0, hN⟩ := hv
  have hx := B.exec
  have hb := B.bytes
  have hr := B.returns
  have hts := atoms_spec (ws := wsX4_hasReading) B.pre
  have hm : ∀ (i : Nat) (w : Cond), wsX4_hasReading[i]? = some w → w.before _ zs = true := fun i w h => hts w (List.mem_of_getElem? h)
  have hown : zs.vm.findClass RX4 = some zm.cls := findClass_of_methodNamed B.named
  have hlocks := B.notSynchronized
  subst hsz
  have hD := hD0.self (sz := zs.heap.size)
  generalize hAe : va_A ([(h, .inr (4, [.ref sa, .ref pa, .int z, .ref er, .ref na, .long x1, .long x2, .long x3, .long hs])), (sa, .inl (cI, 71, .inl s))]) zs.heap.size = A at hD ⊢
  have hA : ∀ q : Nat, zs.heap.size ≤ q → A q := fun q h => by rw [← hAe]; exact Or.inr h
  have hS : va_S A zs.heap zs.heap [] := va_S.rf
  have hP : va_P D vwCl ([(h, .inr (4, [.ref sa, .ref pa, .int z, .ref er, .ref na, .long x1, .long x2, .long x3, .long hs])), (sa, .inl (cI, 71, .inl s))]) zs.heap := hP
  have hl := lv_entry ([.ref h]) (n := 3) (Nat.le_of_ble_eq_true rfl)
  rw [lg_entry_eq]
  generalize (lg_sl ([.ref h]) ++ List.replicate (3 - (lg_sl ([.ref h])).length) Slot.unset).toArray = ls at hl ⊢
  have hl : lv_has ls 3 [(0, .ref h)] := hl
  refine lv_iconst (v := 0) hx hb dX4_hasReading_0 (by decide) ?_
  refine lv_istore_n (lv' := [(1, .int 0), (0, .ref h)]) hx hb dX4_hasReading_1 rfl hl (by decide) rfl (fun ls hl => ?_)
  refine lv_iconst (v := 0) hx hb dX4_hasReading_2 (by decide) ?_
  refine lv_istore_n (lv' := [(2, .int 0), (1, .int 0), (0, .ref h)]) hx hb dX4_hasReading_3 rfl hl (by decide) rfl (fun ls hl => ?_)
  refine kl_loop (fun (k : Nat) (H : Heap) (locs : List Loc) (ls : Array Slot) => ∃ (i : Nat) (b : Int32), (k + i = n) ∧ ((tk_hb (tk_yS s) i = true ∧ b = 1) ∨ (tk_hb (tk_yS s) i = false ∧ b = 0)) ∧ va_P D vwCl ([(h, .inr (4, [.ref sa, .ref pa, .int z, .ref er, .ref na, .long x1, .long x2, .long x3, .long hs])), (sa, .inl (cI, 71, .inl s))]) H ∧ va_D A ([(h, .inr (4, [.ref sa, .ref pa, .int z, .ref er, .ref na, .long x1, .long x2, .long x3, .long hs])), (sa, .inl (cI, 71, .inl s))]) ∧ va_S A zs.heap H locs ∧ lv_has ls 3 [(2, .int (nI i)), (1, .int b), (0, .ref h)]) (n) ⟨0, 0, by omega, Or.inr ⟨rfl, rfl⟩, hP, hD, hS, lv_sub hl [0, 1, 2] rfl⟩ ?_
  rintro k H locs ls ⟨i, b, hk, hB, hP, hD, hS, hl⟩ ih
  rcases hB with ⟨hB, rfl⟩ | ⟨hB, rfl⟩
  · skip
    refine lv_iload_n hx hb dX4_hasReading_4 rfl (lv_at hl 0 rfl) ?_
    refine lv_aload_n hx hb dX4_hasReading_5 rfl (lv_at hl 2 rfl) ?_
    refine va_get (D := D) (ci := 4) (v := .ref sa) (C := RX4) (T := TX4) (N := 9) hx hb hts izX4_hasReading_4 hown hK hP 0 rfl rfl 0 (by decide) (hm 1 (.fieldLink RX4 7 "TankFilterModel" "s" "[I") rfl) (fun _ h9 => h9) rfl dX4_hasReading_6 ?_
    refine lv_bipush (v := 22) hx hb dX4_hasReading_9 (by decide) ?_
    refine ka_ild (D := D) (j := 22) (n := 71) (f := s) hx hb hK hP 1 0 rfl rfl (rfl) (by decide) (by decide) dX4_hasReading_11 ?_
    refine ka_fold (y := nI n) h22 ?_
    refine lv_icmp_ge (tgt := 46) hx hb dX4_hasReading_12 (by decide) (fun c_1 => ?_) (fun c_1 => ?_)
    · have c_1 := (nI_leI (a := n) (b := i) (by omega) (by omega)).mp c_1
      refine lv_iload_n hx hb dX4_hasReading_46 rfl (lv_at hl 1 rfl) ?_
      exact W.zret (v := 1) hx hb hr rfl (fun zt ht hW => ⟨⟨1, (), rfl, Or.inl ⟨by rw [show n = i from by omega]; exact hB, rfl⟩, KB.of hAe (by rw [ht]; exact hP) hD⟩, hS.F ht⟩) hS.2.2 dX4_hasReading_47
    · have c_1 := mt (nI_leI (a := n) (b := i) (by omega) (by omega)).mpr c_1
      refine lv_iload_n hx hb dX4_hasReading_15 rfl (lv_at hl 1 rfl) ?_
      refine lv_if_ne (tgt := 34) hx hb dX4_hasReading_16 (by decide) (fun c_2 => ?_) (fun c_2 => ?_)
      · skip
        refine lv_iconst (v := 1) hx hb dX4_hasReading_34 (by decide) ?_
        refine lv_goto (tgt := 39) hx hb dX4_hasReading_35 (by decide) ?_
        refine lv_istore_n (lv' := [(1, .int 1), (2, .int (nI i)), (0, .ref h)]) hx hb dX4_hasReading_39 rfl hl (by decide) rfl (fun ls hl => ?_)
        refine lv_iinc (v := nI (i + 1)) (lv' := [(2, .int (nI (i + 1))), (1, .int 1), (0, .ref h)]) hx hb dX4_hasReading_40 hl (k := 1) rfl (nI_1 _) (by decide) rfl (fun ls hl => ?_)
        refine lv_goto (tgt := 4) hx hb dX4_hasReading_43 (by decide) ?_
        exact ih (k - 1) _ _ _ (by omega) ⟨i + 1, 1, by omega, Or.inl ⟨by rw [tk_hb, hB, Bool.true_or], rfl⟩, hP, hD, hS, lv_sub hl [0, 1, 2] rfl⟩
      · exact absurd c_2 (by decide)
  · skip
    refine lv_iload_n hx hb dX4_hasReading_4 rfl (lv_at hl 0 rfl) ?_
    refine lv_aload_n hx hb dX4_hasReading_5 rfl (lv_at hl 2 rfl) ?_
    refine va_get (D := D) (ci := 4) (v := .ref sa) (C := RX4) (T := TX4) (N := 9) hx hb hts izX4_hasReading_4 hown hK hP 0 rfl rfl 0 (by decide) (hm 1 (.fieldLink RX4 7 "TankFilterModel" "s" "[I") rfl) (fun _ h9 => h9) rfl dX4_hasReading_6 ?_
    refine lv_bipush (v := 22) hx hb dX4_hasReading_9 (by decide) ?_
    refine ka_ild (D := D) (j := 22) (n := 71) (f := s) hx hb hK hP 1 0 rfl rfl (rfl) (by decide) (by decide) dX4_hasReading_11 ?_
    refine ka_fold (y := nI n) h22 ?_
    refine lv_icmp_ge (tgt := 46) hx hb dX4_hasReading_12 (by decide) (fun c_3 => ?_) (fun c_3 => ?_)
    · have c_3 := (nI_leI (a := n) (b := i) (by omega) (by omega)).mp c_3
      refine lv_iload_n hx hb dX4_hasReading_46 rfl (lv_at hl 1 rfl) ?_
      exact W.zret (v := 0) hx hb hr rfl (fun zt ht hW => ⟨⟨0, (), rfl, Or.inr ⟨by rw [show n = i from by omega]; exact hB, rfl⟩, KB.of hAe (by rw [ht]; exact hP) hD⟩, hS.F ht⟩) hS.2.2 dX4_hasReading_47
    · have c_3 := mt (nI_leI (a := n) (b := i) (by omega) (by omega)).mpr c_3
      refine lv_iload_n hx hb dX4_hasReading_15 rfl (lv_at hl 1 rfl) ?_
      refine lv_if_ne (tgt := 34) hx hb dX4_hasReading_16 (by decide) (fun c_4 => ?_) (fun c_4 => ?_)
      · exact absurd c_4 (by decide)
      · skip
        refine lv_aload_n hx hb dX4_hasReading_19 rfl (lv_at hl 2 rfl) ?_
        refine va_get (D := D) (ci := 4) (v := .ref sa) (C := RX4) (T := TX4) (N := 9) hx hb hts izX4_hasReading_4 hown hK hP 0 rfl rfl 0 (by decide) (hm 1 (.fieldLink RX4 7 "TankFilterModel" "s" "[I") rfl) (fun _ h9 => h9) rfl dX4_hasReading_20 ?_
        refine lv_bipush (v := 23) hx hb dX4_hasReading_23 (by decide) ?_
        refine lv_iconst (v := 2) hx hb dX4_hasReading_25 (by decide) ?_
        refine lv_iload_n hx hb dX4_hasReading_26 rfl (lv_at hl 0 rfl) ?_
        refine lv_imul hx hb dX4_hasReading_27 ?_
        refine ka_fold (y := nI (2 * i)) (pk_mul 2 i) ?_
        refine lv_iadd hx hb dX4_hasReading_28 ?_
        refine ka_fold (y := nI (23 + (2 * i))) (nI_add 23 (2 * i)) ?_
        refine ka_ild (D := D) (j := (23 + (2 * i))) (n := 71) (f := s) hx hb hK hP 1 0 rfl rfl (rfl) (by omega) (by decide) dX4_hasReading_29 ?_
        refine lv_iconst (v := -1) hx hb dX4_hasReading_30 (by decide) ?_
        refine lv_icmp_eq (tgt := 38) hx hb dX4_hasReading_31 (by decide) (fun c_5 => ?_) (fun c_5 => ?_)
        · skip
          refine lv_iconst (v := 0) hx hb dX4_hasReading_38 (by decide) ?_
          refine lv_istore_n (lv' := [(1, .int 0), (2, .int (nI i)), (0, .ref h)]) hx hb dX4_hasReading_39 rfl hl (by decide) rfl (fun ls hl => ?_)
          refine lv_iinc (v := nI (i + 1)) (lv' := [(2, .int (nI (i + 1))), (1, .int 0), (0, .ref h)]) hx hb dX4_hasReading_40 hl (k := 1) rfl (nI_1 _) (by decide) rfl (fun ls hl => ?_)
          refine lv_goto (tgt := 4) hx hb dX4_hasReading_43 (by decide) ?_
          exact ih (k - 1) _ _ _ (by omega) ⟨i + 1, 0, by omega, Or.inr ⟨by rw [tk_hb, hB, decide_eq_true (p := tk_yS s i = -1) c_5]; rfl, rfl⟩, hP, hD, hS, lv_sub hl [0, 1, 2] rfl⟩
        · skip
          refine lv_iconst (v := 1) hx hb dX4_hasReading_34 (by decide) ?_
          refine lv_goto (tgt := 39) hx hb dX4_hasReading_35 (by decide) ?_
          refine lv_istore_n (lv' := [(1, .int 1), (2, .int (nI i)), (0, .ref h)]) hx hb dX4_hasReading_39 rfl hl (by decide) rfl (fun ls hl => ?_)
          refine lv_iinc (v := nI (i + 1)) (lv' := [(2, .int (nI (i + 1))), (1, .int 1), (0, .ref h)]) hx hb dX4_hasReading_40 hl (k := 1) rfl (nI_1 _) (by decide) rfl (fun ls hl => ?_)
          refine lv_goto (tgt := 4) hx hb dX4_hasReading_43 (by decide) ?_
          exact ih (k - 1) _ _ _ (by omega) ⟨i + 1, 1, by omega, Or.inl ⟨by rw [tk_hb, hB, decide_eq_false (p := tk_yS s i = -1) c_5]; rfl, rfl⟩, hP, hD, hS, lv_sub hl [0, 1, 2] rfl⟩
