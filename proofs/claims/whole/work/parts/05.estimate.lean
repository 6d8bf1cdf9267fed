theorem izX0_mean_0 : ∀ w ∈ wsX00, w ∈ wsX0_mean := fun _ h => List.mem_cons_of_mem _ (List.mem_append_right _ h)
set_option maxHeartbeats 4000000 in
set_option maxRecDepth 100000 in
/-- mean -/
theorem k_X0_mean (l : Launch) (D : va_G) (cI cM cJ : ClassId) (sz : Nat) (h0 : Nat) (e : Nat → Int64) (kd : Int32) : Met l yX0_mean wsX0_mean ({ frames := 0, cells := 0, slots := 0, locals := 0 }) (va_Pc [.ref h0, .int kd] (KP D (tk_T cI cM cJ) ([(h0, .inr (0, tk_ev e))]) sz)) (va_Ql (fun (r : Int64) (u : Unit) => r = co_m e kd) (fun u t => KB D ([(h0, .inr (0, tk_ev e))]) ([(h0, .inr (0, tk_ev e))]) sz t) (va_A ([(h0, .inr (0, tk_ev e))]) sz)) 0 0 (va_A ([(h0, .inr (0, tk_ev e))]) sz) := by
  refine Met.ofW (cc := cX0_mean) (maxL := 2) (ret := (some .long)) (by decide) rfl ?_
  intro p e s m args below meth c s₁ B hml hv
  obtain ⟨rfl, hsz, hP, hK, hD0, hN⟩ := hv
  have hx := B.exec
  have hb := B.bytes
  have hr := B.returns
  have hts := atoms_spec (ws := wsX0_mean) B.pre
  have hm : ∀ (i : Nat) (w : Cond), wsX0_mean[i]? = some w → w.before _ s = true := fun i w h => hts w (List.mem_of_getElem? h)
  have hown : s.vm.findClass RX0 = some m.cls := findClass_of_methodNamed B.named
  have hlocks := B.notSynchronized
  subst hsz
  have hD := hD0.self (sz := s.heap.size)
  generalize hAe : va_A ([(h0, .inr (0, tk_ev e))]) s.heap.size = A at hD ⊢
  have hA : ∀ q : Nat, s.heap.size ≤ q → A q := fun q h => by rw [← hAe]; exact Or.inr h
  have hS : va_S A s.heap s.heap [] := va_S.rf
  have hP : va_P D vwCl ([(h0, .inr (0, tk_ev e))]) s.heap := hP
  have hl := lv_entry ([.ref h0, .int kd]) (n := 2) (Nat.le_of_ble_eq_true rfl)
  rw [lg_entry_eq]
  generalize (lg_sl ([.ref h0, .int kd]) ++ List.replicate (2 - (lg_sl ([.ref h0, .int kd])).length) Slot.unset).toArray = ls at hl ⊢
  have hl : lv_has ls 2 [(0, .ref h0), (1, .int kd)] := hl
  refine lv_iload_n hx hb dX0_mean_0 rfl (lv_at hl 1 rfl) ?_
  refine lv_if_ne (tgt := 11) hx hb dX0_mean_1 (by decide) (fun c_1 => ?_) (fun c_1 => ?_)
  · skip
    refine lv_aload_n hx hb dX0_mean_11 rfl (lv_at hl 0 rfl) ?_
    refine va_get (D := D) (ci := 0) (v := .long (e 1)) (C := RX0) (T := TX0) (N := 8) hx hb hts izX0_mean_0 hown hK hP 0 rfl rfl 1 (by decide) (hm 2 (.fieldLink RX0 15 "TankFilter$Estimate" "flow" "J") rfl) (fun _ h9 => h9) rfl dX0_mean_12 ?_
    exact W.lret (v := e 1) hx hb hr (fun t ht hW => ⟨⟨e 1, (), rfl, (co_m1 c_1).symm, KB.of hAe (by rw [ht]; exact hP) hD⟩, hS.F ht⟩) hS.2.2 dX0_mean_15
  · skip
    refine lv_aload_n hx hb dX0_mean_4 rfl (lv_at hl 0 rfl) ?_
    refine va_get (D := D) (ci := 0) (v := .long (e 0)) (C := RX0) (T := TX0) (N := 8) hx hb hts izX0_mean_0 hown hK hP 0 rfl rfl 0 (by decide) (hm 1 (.fieldLink RX0 9 "TankFilter$Estimate" "level" "J") rfl) (fun _ h9 => h9) rfl dX0_mean_5 ?_
    refine lv_goto (tgt := 15) hx hb dX0_mean_8 (by decide) ?_
    exact W.lret (v := e 0) hx hb hr (fun t ht hW => ⟨⟨e 0, (), rfl, (co_m0 c_1).symm, KB.of hAe (by rw [ht]; exact hP) hD⟩, hS.F ht⟩) hS.2.2 dX0_mean_15

theorem izX0_move_0 : ∀ w ∈ wsX00, w ∈ wsX0_move := fun _ h => List.mem_cons_of_mem _ (List.mem_append_right _ h)
set_option maxHeartbeats 4000000 in
set_option maxRecDepth 100000 in
/-- move -/
theorem k_X0_move (l : Launch) (D : va_G) (cI cM cJ : ClassId) (sz : Nat) (h0 : Nat) (e : Nat → Int64) (x v a b c : Int64) : Met l yX0_move wsX0_move ({ frames := 1, cells := 0, slots := 0, locals := 21 }) (va_Pc [.ref h0, .long x, .long v, .long a, .long b, .long c] (KP D (tk_T cI cM cJ) ([(h0, .inr (0, tk_ev e))]) sz)) (va_Qi (fun (r : Int32) (u : Nat → Int64) => (tk_mok x v a b c = true ∧ r = 1 ∧ u = tk_mv e x v a b c) ∨ (tk_mok x v a b c = false ∧ r = 0 ∧ u = e)) (fun u t => KB D ([(h0, .inr (0, tk_ev e))]) ([(h0, .inr (0, tk_ev u))]) sz t) (va_A ([(h0, .inr (0, tk_ev e))]) sz)) 0 0 (va_A ([(h0, .inr (0, tk_ev e))]) sz) := by
  refine Met.ofW (cc := cX0_move) (maxL := 15) (ret := (some .boolean)) (by decide) rfl ?_
  intro p e s m args below meth c s₁ B hml hv
  obtain ⟨rfl, hsz, hP, hK, hD0, hN⟩ := hv
  have hx := B.exec
  have hb := B.bytes
  have hr := B.returns
  have hts := atoms_spec (ws := wsX0_move) B.pre
  have hm : ∀ (i : Nat) (w : Cond), wsX0_move[i]? = some w → w.before _ s = true := fun i w h => hts w (List.mem_of_getElem? h)
  have hown : s.vm.findClass RX0 = some m.cls := findClass_of_methodNamed B.named
  have hlocks := B.notSynchronized
  subst hsz
  have hD := hD0.self (sz := s.heap.size)
  generalize hAe : va_A ([(h0, .inr (0, tk_ev e))]) s.heap.size = A at hD ⊢
  have hA : ∀ q : Nat, s.heap.size ≤ q → A q := fun q h => by rw [← hAe]; exact Or.inr h
  have hS : va_S A s.heap s.heap [] := va_S.rf
  have hP : va_P D vwCl ([(h0, .inr (0, tk_ev e))]) s.heap := hP
  have hl := lv_entry ([.ref h0, .long x, .long v, .long a, .long b, .long c]) (n := 15) (Nat.le_of_ble_eq_true rfl)
  rw [lg_entry_eq]
  generalize (lg_sl ([.ref h0, .long x, .long v, .long a, .long b, .long c]) ++ List.replicate (15 - (lg_sl ([.ref h0, .long x, .long v, .long a, .long b, .long c])).length) Slot.unset).toArray = ls at hl ⊢
  have hl : lv_has ls 15 [(0, .ref h0), (1, .long x), (3, .long v), (5, .long a), (7, .long b), (9, .long c)] := hl
  refine lv_lload hx hb dX0_move_0 (lv_at hl 3 rfl) ?_
  refine lv_lconst (v := 0) hx hb dX0_move_2 (by decide) ?_
  refine va_mmax_long hx hb (hml.trans hl.1.symm) hown (hm 1 (.methodLink RX0 62 Lib.MathLoose.max_long.x) rfl) (hm 2 (.static Lib.MathLoose.max_long.x) rfl) (hm 3 (.initialized "java/lang/Math") rfl) (hm 4 (.code Lib.MathLoose.max_long.x Lib.MathLoose.max_long.code 4 (some .long)) rfl) (Nat.le_of_ble_eq_true rfl) (Nat.le_of_ble_eq_true rfl) (Nat.le_of_ble_eq_true rfl) (Nat.le_of_ble_eq_true rfl) dX0_move_3 ?_
  refine lv_lstore (lv' := [(11, .long (if 0 < a then a else 0)), (0, .ref h0), (1, .long x), (3, .long v), (5, .long a), (7, .long b), (9, .long c)]) hx hb dX0_move_6 hl (by decide) rfl (fun ls hl => ?_)
  refine lv_lload hx hb dX0_move_8 (lv_at hl 6 rfl) ?_
  refine lv_lconst (v := 0) hx hb dX0_move_10 (by decide) ?_
  refine va_mmax_long hx hb (hml.trans hl.1.symm) hown (hm 1 (.methodLink RX0 62 Lib.MathLoose.max_long.x) rfl) (hm 2 (.static Lib.MathLoose.max_long.x) rfl) (hm 3 (.initialized "java/lang/Math") rfl) (hm 4 (.code Lib.MathLoose.max_long.x Lib.MathLoose.max_long.code 4 (some .long)) rfl) (Nat.le_of_ble_eq_true rfl) (Nat.le_of_ble_eq_true rfl) (Nat.le_of_ble_eq_true rfl) (Nat.le_of_ble_eq_true rfl) dX0_move_11 ?_
  refine lv_lstore (lv' := [(13, .long (if 0 < c then c else 0)), (11, .long (if 0 < a then a else 0)), (0, .ref h0), (1, .long x), (3, .long v), (5, .long a), (7, .long b), (9, .long c)]) hx hb dX0_move_14 hl (by decide) rfl (fun ls hl => ?_)
  refine lv_lload_n hx hb dX0_move_16 rfl (lv_at hl 3 rfl) ?_
  refine kc_i (wc := []) (wr := [(h0, .inr (0, tk_ev e))]) (va_runSN (As := [.long x]) (rest := []) ⟨hx, hb, hml, hown, hts⟩ (k_X3_isInLimit l D cI cM cJ H.size x) ⟨va_cnB 1 hts gX0_move_X3_isInLimit_n54 rfl rfl rfl (hN.at 34 rfl) (hm 11 (.initialized RX3) rfl) (by decide +kernel) ⟨Nat.le_of_ble_eq_true rfl, Nat.le_of_ble_eq_true rfl⟩, (hm 10 (.static yX3_isInLimit) rfl), trivial⟩ (kp_preS hN hK hP hD) rfl rfl hl.1 rfl (lv_room (Nat.le_of_ble_eq_true rfl)) dX0_move_17 ⟨Nat.le_of_ble_eq_true rfl, Nat.le_of_ble_eq_true rfl⟩) hP hD hS hA (fun r_1 u_1 H locs p_1 hP hD hS => ?_)
  rcases p_1 with ⟨p_1, rfl⟩ | ⟨p_1, rfl⟩
  · have hP : va_P D vwCl ([(h0, .inr (0, tk_ev e))]) H := hP
    have hD : va_D A ([(h0, .inr (0, tk_ev e))]) := hD
    refine lv_if_eq (tgt := 54) hx hb dX0_move_20 (by decide) (fun c_2 => ?_) (fun c_2 => ?_)
    · exact absurd c_2 (by decide)
    · skip
      refine lv_lload_n hx hb dX0_move_23 rfl (lv_at hl 4 rfl) ?_
      refine kc_i (wc := []) (wr := [(h0, .inr (0, tk_ev e))]) (va_runSN (As := [.long v]) (rest := []) ⟨hx, hb, hml, hown, hts⟩ (k_X3_isInLimit l D cI cM cJ H.size v) ⟨va_cnB 1 hts gX0_move_X3_isInLimit_n54 rfl rfl rfl (hN.at 34 rfl) (hm 11 (.initialized RX3) rfl) (by decide +kernel) ⟨Nat.le_of_ble_eq_true rfl, Nat.le_of_ble_eq_true rfl⟩, (hm 10 (.static yX3_isInLimit) rfl), trivial⟩ (kp_preS hN hK hP hD) rfl rfl hl.1 rfl (lv_room (Nat.le_of_ble_eq_true rfl)) dX0_move_24 ⟨Nat.le_of_ble_eq_true rfl, Nat.le_of_ble_eq_true rfl⟩) hP hD hS hA (fun r_3 u_3 H locs p_3 hP hD hS => ?_)
      rcases p_3 with ⟨p_3, rfl⟩ | ⟨p_3, rfl⟩
      · have hP : va_P D vwCl ([(h0, .inr (0, tk_ev e))]) H := hP
        have hD : va_D A ([(h0, .inr (0, tk_ev e))]) := hD
        refine lv_if_eq (tgt := 54) hx hb dX0_move_27 (by decide) (fun c_4 => ?_) (fun c_4 => ?_)
        · exact absurd c_4 (by decide)
        · skip
          refine lv_lload hx hb dX0_move_30 (lv_at hl 1 rfl) ?_
          refine kc_i (wc := []) (wr := [(h0, .inr (0, tk_ev e))]) (va_runSN (As := [.long (if 0 < a then a else 0)]) (rest := []) ⟨hx, hb, hml, hown, hts⟩ (k_X3_isInLimit l D cI cM cJ H.size (if 0 < a then a else 0)) ⟨va_cnB 1 hts gX0_move_X3_isInLimit_n54 rfl rfl rfl (hN.at 34 rfl) (hm 11 (.initialized RX3) rfl) (by decide +kernel) ⟨Nat.le_of_ble_eq_true rfl, Nat.le_of_ble_eq_true rfl⟩, (hm 10 (.static yX3_isInLimit) rfl), trivial⟩ (kp_preS hN hK hP hD) rfl rfl hl.1 rfl (lv_room (Nat.le_of_ble_eq_true rfl)) dX0_move_32 ⟨Nat.le_of_ble_eq_true rfl, Nat.le_of_ble_eq_true rfl⟩) hP hD hS hA (fun r_5 u_5 H locs p_5 hP hD hS => ?_)
          rcases p_5 with ⟨p_5, rfl⟩ | ⟨p_5, rfl⟩
          · have hP : va_P D vwCl ([(h0, .inr (0, tk_ev e))]) H := hP
            have hD : va_D A ([(h0, .inr (0, tk_ev e))]) := hD
            refine lv_if_eq (tgt := 54) hx hb dX0_move_35 (by decide) (fun c_6 => ?_) (fun c_6 => ?_)
            · exact absurd c_6 (by decide)
            · skip
              refine lv_lload hx hb dX0_move_38 (lv_at hl 6 rfl) ?_
              refine kc_i (wc := []) (wr := [(h0, .inr (0, tk_ev e))]) (va_runSN (As := [.long b]) (rest := []) ⟨hx, hb, hml, hown, hts⟩ (k_X3_isInLimit l D cI cM cJ H.size b) ⟨va_cnB 1 hts gX0_move_X3_isInLimit_n54 rfl rfl rfl (hN.at 34 rfl) (hm 11 (.initialized RX3) rfl) (by decide +kernel) ⟨Nat.le_of_ble_eq_true rfl, Nat.le_of_ble_eq_true rfl⟩, (hm 10 (.static yX3_isInLimit) rfl), trivial⟩ (kp_preS hN hK hP hD) rfl rfl hl.1 rfl (lv_room (Nat.le_of_ble_eq_true rfl)) dX0_move_40 ⟨Nat.le_of_ble_eq_true rfl, Nat.le_of_ble_eq_true rfl⟩) hP hD hS hA (fun r_7 u_7 H locs p_7 hP hD hS => ?_)
              rcases p_7 with ⟨p_7, rfl⟩ | ⟨p_7, rfl⟩
              · have hP : va_P D vwCl ([(h0, .inr (0, tk_ev e))]) H := hP
                have hD : va_D A ([(h0, .inr (0, tk_ev e))]) := hD
                refine lv_if_eq (tgt := 54) hx hb dX0_move_43 (by decide) (fun c_8 => ?_) (fun c_8 => ?_)
                · exact absurd c_8 (by decide)
                · skip
                  refine lv_lload hx hb dX0_move_46 (lv_at hl 0 rfl) ?_
                  refine kc_i (wc := []) (wr := [(h0, .inr (0, tk_ev e))]) (va_runSN (As := [.long (if 0 < c then c else 0)]) (rest := []) ⟨hx, hb, hml, hown, hts⟩ (k_X3_isInLimit l D cI cM cJ H.size (if 0 < c then c else 0)) ⟨va_cnB 1 hts gX0_move_X3_isInLimit_n54 rfl rfl rfl (hN.at 34 rfl) (hm 11 (.initialized RX3) rfl) (by decide +kernel) ⟨Nat.le_of_ble_eq_true rfl, Nat.le_of_ble_eq_true rfl⟩, (hm 10 (.static yX3_isInLimit) rfl), trivial⟩ (kp_preS hN hK hP hD) rfl rfl hl.1 rfl (lv_room (Nat.le_of_ble_eq_true rfl)) dX0_move_48 ⟨Nat.le_of_ble_eq_true rfl, Nat.le_of_ble_eq_true rfl⟩) hP hD hS hA (fun r_9 u_9 H locs p_9 hP hD hS => ?_)
                  rcases p_9 with ⟨p_9, rfl⟩ | ⟨p_9, rfl⟩
                  · have hP : va_P D vwCl ([(h0, .inr (0, tk_ev e))]) H := hP
                    have hD : va_D A ([(h0, .inr (0, tk_ev e))]) := hD
                    refine lv_if_ne (tgt := 56) hx hb dX0_move_51 (by decide) (fun c_10 => ?_) (fun c_10 => ?_)
                    · skip
                      refine lv_aload_n hx hb dX0_move_56 rfl (lv_at hl 2 rfl) ?_
                      refine lv_lload_n hx hb dX0_move_57 rfl (lv_at hl 3 rfl) ?_
                      refine va_put (D := D) (ci := 0) (v := .long x) (ty := .long) (C := RX0) (T := TX0) (N := 8) hx hb hts izX0_move_0 tyX0 tyX0_ok nmX0 hown hK hP hD hS 0 rfl rfl 0 (by decide) (hm 5 (.fieldLink RX0 9 "TankFilter$Estimate" "level" "J") rfl) (fun _ h9 => h9) rfl (by decide +kernel) rfl rfl (Nat.le_of_ble_eq_true rfl) dX0_move_58 (fun H locs hP hD hS => ?_)
                      have hP : va_P D vwCl ([(h0, .inr (0, [.long x, .long (e 1), .long (e 2), .long (e 3), .long (e 4), .long (e 5), .long (e 6), .long (e 7)]))]) H := hP
                      have hD : va_D A ([(h0, .inr (0, [.long x, .long (e 1), .long (e 2), .long (e 3), .long (e 4), .long (e 5), .long (e 6), .long (e 7)]))]) := hD
                      refine lv_aload_n hx hb dX0_move_61 rfl (lv_at hl 2 rfl) ?_
                      refine lv_lload_n hx hb dX0_move_62 rfl (lv_at hl 4 rfl) ?_
                      refine va_put (D := D) (ci := 0) (v := .long v) (ty := .long) (C := RX0) (T := TX0) (N := 8) hx hb hts izX0_move_0 tyX0 tyX0_ok nmX0 hown hK hP hD hS 0 rfl rfl 1 (by decide) (hm 6 (.fieldLink RX0 15 "TankFilter$Estimate" "flow" "J") rfl) (fun _ h9 => h9) rfl (by decide +kernel) rfl rfl (Nat.le_of_ble_eq_true rfl) dX0_move_63 (fun H locs hP hD hS => ?_)
                      have hP : va_P D vwCl ([(h0, .inr (0, [.long x, .long v, .long (e 2), .long (e 3), .long (e 4), .long (e 5), .long (e 6), .long (e 7)]))]) H := hP
                      have hD : va_D A ([(h0, .inr (0, [.long x, .long v, .long (e 2), .long (e 3), .long (e 4), .long (e 5), .long (e 6), .long (e 7)]))]) := hD
                      refine lv_aload_n hx hb dX0_move_66 rfl (lv_at hl 2 rfl) ?_
                      refine lv_lload hx hb dX0_move_67 (lv_at hl 1 rfl) ?_
                      refine va_put (D := D) (ci := 0) (v := .long (if 0 < a then a else 0)) (ty := .long) (C := RX0) (T := TX0) (N := 8) hx hb hts izX0_move_0 tyX0 tyX0_ok nmX0 hown hK hP hD hS 0 rfl rfl 2 (by decide) (hm 7 (.fieldLink RX0 20 "TankFilter$Estimate" "levelVariance" "J") rfl) (fun _ h9 => h9) rfl (by decide +kernel) rfl rfl (Nat.le_of_ble_eq_true rfl) dX0_move_69 (fun H locs hP hD hS => ?_)
                      have hP : va_P D vwCl ([(h0, .inr (0, [.long x, .long v, .long (if 0 < a then a else 0), .long (e 3), .long (e 4), .long (e 5), .long (e 6), .long (e 7)]))]) H := hP
                      have hD : va_D A ([(h0, .inr (0, [.long x, .long v, .long (if 0 < a then a else 0), .long (e 3), .long (e 4), .long (e 5), .long (e 6), .long (e 7)]))]) := hD
                      refine lv_aload_n hx hb dX0_move_72 rfl (lv_at hl 2 rfl) ?_
                      refine lv_lload hx hb dX0_move_73 (lv_at hl 6 rfl) ?_
                      refine va_put (D := D) (ci := 0) (v := .long b) (ty := .long) (C := RX0) (T := TX0) (N := 8) hx hb hts izX0_move_0 tyX0 tyX0_ok nmX0 hown hK hP hD hS 0 rfl rfl 3 (by decide) (hm 8 (.fieldLink RX0 23 "TankFilter$Estimate" "covariance" "J") rfl) (fun _ h9 => h9) rfl (by decide +kernel) rfl rfl (Nat.le_of_ble_eq_true rfl) dX0_move_75 (fun H locs hP hD hS => ?_)
                      have hP : va_P D vwCl ([(h0, .inr (0, [.long x, .long v, .long (if 0 < a then a else 0), .long b, .long (e 4), .long (e 5), .long (e 6), .long (e 7)]))]) H := hP
                      have hD : va_D A ([(h0, .inr (0, [.long x, .long v, .long (if 0 < a then a else 0), .long b, .long (e 4), .long (e 5), .long (e 6), .long (e 7)]))]) := hD
                      refine lv_aload_n hx hb dX0_move_78 rfl (lv_at hl 2 rfl) ?_
                      refine lv_lload hx hb dX0_move_79 (lv_at hl 0 rfl) ?_
                      refine va_put (D := D) (ci := 0) (v := .long (if 0 < c then c else 0)) (ty := .long) (C := RX0) (T := TX0) (N := 8) hx hb hts izX0_move_0 tyX0 tyX0_ok nmX0 hown hK hP hD hS 0 rfl rfl 4 (by decide) (hm 9 (.fieldLink RX0 26 "TankFilter$Estimate" "flowVariance" "J") rfl) (fun _ h9 => h9) rfl (by decide +kernel) rfl rfl (Nat.le_of_ble_eq_true rfl) dX0_move_81 (fun H locs hP hD hS => ?_)
                      have hP : va_P D vwCl ([(h0, .inr (0, [.long x, .long v, .long (if 0 < a then a else 0), .long b, .long (if 0 < c then c else 0), .long (e 5), .long (e 6), .long (e 7)]))]) H := hP
                      have hD : va_D A ([(h0, .inr (0, [.long x, .long v, .long (if 0 < a then a else 0), .long b, .long (if 0 < c then c else 0), .long (e 5), .long (e 6), .long (e 7)]))]) := hD
                      refine lv_iconst (v := 1) hx hb dX0_move_84 (by decide) ?_
                      exact W.zret (v := 1) hx hb hr rfl (fun t ht hW => ⟨⟨1, tk_mv e x v a b c, rfl, Or.inl ⟨by rw [tk_mok, tk_pos, tk_pos, p_1, p_3, p_5, p_7, p_9]; rfl, rfl, rfl⟩, KB.of hAe (by rw [ht]; exact hP) hD⟩, hS.F ht⟩) hS.2.2 dX0_move_85
                    · exact absurd c_10 (by decide)
                  · have hP : va_P D vwCl ([(h0, .inr (0, tk_ev e))]) H := hP
                    have hD : va_D A ([(h0, .inr (0, tk_ev e))]) := hD
                    refine lv_if_ne (tgt := 56) hx hb dX0_move_51 (by decide) (fun c_11 => ?_) (fun c_11 => ?_)
                    · exact absurd c_11 (by decide)
                    · skip
                      refine lv_iconst (v := 0) hx hb dX0_move_54 (by decide) ?_
                      exact W.zret (v := 0) hx hb hr rfl (fun t ht hW => ⟨⟨0, e, rfl, Or.inr ⟨by rw [tk_mok, tk_pos, tk_pos, p_1, p_3, p_5, p_7, p_9]; rfl, rfl, rfl⟩, KB.of hAe (by rw [ht]; exact hP) hD⟩, hS.F ht⟩) hS.2.2 dX0_move_55
              · have hP : va_P D vwCl ([(h0, .inr (0, tk_ev e))]) H := hP
                have hD : va_D A ([(h0, .inr (0, tk_ev e))]) := hD
                refine lv_if_eq (tgt := 54) hx hb dX0_move_43 (by decide) (fun c_12 => ?_) (fun c_12 => ?_)
                · skip
                  refine lv_iconst (v := 0) hx hb dX0_move_54 (by decide) ?_
                  exact W.zret (v := 0) hx hb hr rfl (fun t ht hW => ⟨⟨0, e, rfl, Or.inr ⟨by rw [tk_mok, tk_pos, tk_pos, p_1, p_3, p_5, p_7]; rfl, rfl, rfl⟩, KB.of hAe (by rw [ht]; exact hP) hD⟩, hS.F ht⟩) hS.2.2 dX0_move_55
                · exact absurd c_12 (by decide)
          · have hP : va_P D vwCl ([(h0, .inr (0, tk_ev e))]) H := hP
            have hD : va_D A ([(h0, .inr (0, tk_ev e))]) := hD
            refine lv_if_eq (tgt := 54) hx hb dX0_move_35 (by decide) (fun c_13 => ?_) (fun c_13 => ?_)
            · skip
              refine lv_iconst (v := 0) hx hb dX0_move_54 (by decide) ?_
              exact W.zret (v := 0) hx hb hr rfl (fun t ht hW => ⟨⟨0, e, rfl, Or.inr ⟨by rw [tk_mok, tk_pos, tk_pos, p_1, p_3, p_5]; rfl, rfl, rfl⟩, KB.of hAe (by rw [ht]; exact hP) hD⟩, hS.F ht⟩) hS.2.2 dX0_move_55
            · exact absurd c_13 (by decide)
      · have hP : va_P D vwCl ([(h0, .inr (0, tk_ev e))]) H := hP
        have hD : va_D A ([(h0, .inr (0, tk_ev e))]) := hD
        refine lv_if_eq (tgt := 54) hx hb dX0_move_27 (by decide) (fun c_14 => ?_) (fun c_14 => ?_)
        · skip
          refine lv_iconst (v := 0) hx hb dX0_move_54 (by decide) ?_
          exact W.zret (v := 0) hx hb hr rfl (fun t ht hW => ⟨⟨0, e, rfl, Or.inr ⟨by rw [tk_mok, tk_pos, tk_pos, p_1, p_3]; rfl, rfl, rfl⟩, KB.of hAe (by rw [ht]; exact hP) hD⟩, hS.F ht⟩) hS.2.2 dX0_move_55
        · exact absurd c_14 (by decide)
  · have hP : va_P D vwCl ([(h0, .inr (0, tk_ev e))]) H := hP
    have hD : va_D A ([(h0, .inr (0, tk_ev e))]) := hD
    refine lv_if_eq (tgt := 54) hx hb dX0_move_20 (by decide) (fun c_15 => ?_) (fun c_15 => ?_)
    · skip
      refine lv_iconst (v := 0) hx hb dX0_move_54 (by decide) ?_
      exact W.zret (v := 0) hx hb hr rfl (fun t ht hW => ⟨⟨0, e, rfl, Or.inr ⟨by rw [tk_mok, tk_pos, tk_pos, p_1]; rfl, rfl, rfl⟩, KB.of hAe (by rw [ht]; exact hP) hD⟩, hS.F ht⟩) hS.2.2 dX0_move_55
    · exact absurd c_15 (by decide)

theorem izX0_advance_0 : ∀ w ∈ wsX00, w ∈ wsX0_advance := fun _ h => List.mem_cons_of_mem _ (List.mem_append_right _ h)
set_option maxHeartbeats 4000000 in
set_option maxRecDepth 100000 in
/-- advance -/
theorem k_X0_advance (l : Launch) (D : va_G) (cI cM cJ : ClassId) (sz : Nat) (h0 : Nat) (e : Nat → Int64) (n q w : Int64) : Met l yX0_advance wsX0_advance ({ frames := 2, cells := 0, slots := 0, locals := 55 }) (va_Pc [.ref h0, .long n, .long q, .long w] (KP D (tk_T cI cM cJ) ([(h0, .inr (0, tk_ev e))]) sz)) (va_Qi (fun (r : Int32) (u : Nat → Int64) => (ad_ok e n q w = true ∧ r = 1 ∧ u = ad_e e n q w) ∨ (ad_ok e n q w = false ∧ r = 0 ∧ u = e)) (fun u t => KB D ([(h0, .inr (0, tk_ev e))]) ([(h0, .inr (0, tk_ev u))]) sz t) (va_A ([(h0, .inr (0, tk_ev e))]) sz)) 0 0 (va_A ([(h0, .inr (0, tk_ev e))]) sz) := by
  refine Met.ofW (cc := cX0_advance) (maxL := 7) (ret := (some .boolean)) (by decide) rfl ?_
  intro p e s m args below meth c s₁ B hml hv
  obtain ⟨rfl, hsz, hP, hK, hD0, hN⟩ := hv
  have hx := B.exec
  have hb := B.bytes
  have hr := B.returns
  have hts := atoms_spec (ws := wsX0_advance) B.pre
  have hm : ∀ (i : Nat) (w : Cond), wsX0_advance[i]? = some w → w.before _ s = true := fun i w h => hts w (List.mem_of_getElem? h)
  have hown : s.vm.findClass RX0 = some m.cls := findClass_of_methodNamed B.named
  have hlocks := B.notSynchronized
  subst hsz
  have hD := hD0.self (sz := s.heap.size)
  generalize hAe : va_A ([(h0, .inr (0, tk_ev e))]) s.heap.size = A at hD ⊢
  have hA : ∀ q : Nat, s.heap.size ≤ q → A q := fun q h => by rw [← hAe]; exact Or.inr h
  have hS : va_S A s.heap s.heap [] := va_S.rf
  have hP : va_P D vwCl ([(h0, .inr (0, tk_ev e))]) s.heap := hP
  have hl := lv_entry ([.ref h0, .long n, .long q, .long w]) (n := 7) (Nat.le_of_ble_eq_true rfl)
  rw [lg_entry_eq]
  generalize (lg_sl ([.ref h0, .long n, .long q, .long w]) ++ List.replicate (7 - (lg_sl ([.ref h0, .long n, .long q, .long w])).length) Slot.unset).toArray = ls at hl ⊢
  have hl : lv_has ls 7 [(0, .ref h0), (1, .long n), (3, .long q), (5, .long w)] := hl
  refine lv_aload_n hx hb dX0_advance_0 rfl (lv_at hl 0 rfl) ?_
  refine lv_aload_n hx hb dX0_advance_1 rfl (lv_at hl 0 rfl) ?_
  refine va_get (D := D) (ci := 0) (v := .long (e 0)) (C := RX0) (T := TX0) (N := 8) hx hb hts izX0_advance_0 hown hK hP 0 rfl rfl 0 (by decide) (hm 1 (.fieldLink RX0 9 "TankFilter$Estimate" "level" "J") rfl) (fun _ h9 => h9) rfl dX0_advance_2 ?_
  refine lv_aload_n hx hb dX0_advance_5 rfl (lv_at hl 0 rfl) ?_
  refine va_get (D := D) (ci := 0) (v := .long (e 1)) (C := RX0) (T := TX0) (N := 8) hx hb hts izX0_advance_0 hown hK hP 0 rfl rfl 1 (by decide) (hm 2 (.fieldLink RX0 15 "TankFilter$Estimate" "flow" "J") rfl) (fun _ h9 => h9) rfl dX0_advance_6 ?_
  refine lv_ladd hx hb dX0_advance_9 ?_
  refine lv_lload_n hx hb dX0_advance_10 rfl (lv_at hl 1 rfl) ?_
  refine lv_ladd hx hb dX0_advance_11 ?_
  refine lv_aload_n hx hb dX0_advance_12 rfl (lv_at hl 0 rfl) ?_
  refine va_get (D := D) (ci := 0) (v := .long (e 1)) (C := RX0) (T := TX0) (N := 8) hx hb hts izX0_advance_0 hown hK hP 0 rfl rfl 1 (by decide) (hm 2 (.fieldLink RX0 15 "TankFilter$Estimate" "flow" "J") rfl) (fun _ h9 => h9) rfl dX0_advance_13 ?_
  refine lv_aload_n hx hb dX0_advance_16 rfl (lv_at hl 0 rfl) ?_
  refine va_get (D := D) (ci := 0) (v := .long (e 2)) (C := RX0) (T := TX0) (N := 8) hx hb hts izX0_advance_0 hown hK hP 0 rfl rfl 2 (by decide) (hm 3 (.fieldLink RX0 20 "TankFilter$Estimate" "levelVariance" "J") rfl) (fun _ h9 => h9) rfl dX0_advance_17 ?_
  refine lv_ldc2 (v := 2) hx hb hown (hm 4 (.constantLong RX0 40 (2)) rfl) dX0_advance_20 ?_
  refine lv_aload_n hx hb dX0_advance_23 rfl (lv_at hl 0 rfl) ?_
  refine va_get (D := D) (ci := 0) (v := .long (e 3)) (C := RX0) (T := TX0) (N := 8) hx hb hts izX0_advance_0 hown hK hP 0 rfl rfl 3 (by decide) (hm 5 (.fieldLink RX0 23 "TankFilter$Estimate" "covariance" "J") rfl) (fun _ h9 => h9) rfl dX0_advance_24 ?_
  refine lv_lmul hx hb dX0_advance_27 ?_
  refine lv_ladd hx hb dX0_advance_28 ?_
  refine lv_aload_n hx hb dX0_advance_29 rfl (lv_at hl 0 rfl) ?_
  refine va_get (D := D) (ci := 0) (v := .long (e 4)) (C := RX0) (T := TX0) (N := 8) hx hb hts izX0_advance_0 hown hK hP 0 rfl rfl 4 (by decide) (hm 6 (.fieldLink RX0 26 "TankFilter$Estimate" "flowVariance" "J") rfl) (fun _ h9 => h9) rfl dX0_advance_30 ?_
  refine lv_ladd hx hb dX0_advance_33 ?_
  refine lv_lload_n hx hb dX0_advance_34 rfl (lv_at hl 2 rfl) ?_
  refine lv_ladd hx hb dX0_advance_35 ?_
  refine lv_aload_n hx hb dX0_advance_36 rfl (lv_at hl 0 rfl) ?_
  refine va_get (D := D) (ci := 0) (v := .long (e 3)) (C := RX0) (T := TX0) (N := 8) hx hb hts izX0_advance_0 hown hK hP 0 rfl rfl 3 (by decide) (hm 5 (.fieldLink RX0 23 "TankFilter$Estimate" "covariance" "J") rfl) (fun _ h9 => h9) rfl dX0_advance_37 ?_
  refine lv_aload_n hx hb dX0_advance_40 rfl (lv_at hl 0 rfl) ?_
  refine va_get (D := D) (ci := 0) (v := .long (e 4)) (C := RX0) (T := TX0) (N := 8) hx hb hts izX0_advance_0 hown hK hP 0 rfl rfl 4 (by decide) (hm 6 (.fieldLink RX0 26 "TankFilter$Estimate" "flowVariance" "J") rfl) (fun _ h9 => h9) rfl dX0_advance_41 ?_
  refine lv_ladd hx hb dX0_advance_44 ?_
  refine lv_aload_n hx hb dX0_advance_45 rfl (lv_at hl 0 rfl) ?_
  refine va_get (D := D) (ci := 0) (v := .long (e 4)) (C := RX0) (T := TX0) (N := 8) hx hb hts izX0_advance_0 hown hK hP 0 rfl rfl 4 (by decide) (hm 6 (.fieldLink RX0 26 "TankFilter$Estimate" "flowVariance" "J") rfl) (fun _ h9 => h9) rfl dX0_advance_46 ?_
  refine lv_lload hx hb dX0_advance_49 (lv_at hl 3 rfl) ?_
  refine lv_ladd hx hb dX0_advance_51 ?_
  refine kc_i (wc := [(h0, .inr (0, tk_ev e))]) (wr := []) (va_runV (As := [.long (((e 0) + (e 1)) + n), .long (e 1), .long ((((e 2) + (2 * (e 3))) + (e 4)) + q), .long ((e 3) + (e 4)), .long ((e 4) + w)]) (rest := []) ⟨hx, hb, hml, hown, hts⟩ (k_X0_move l D cI cM cJ H.size h0 e (((e 0) + (e 1)) + n) (e 1) ((((e 2) + (2 * (e 3))) + (e 4)) + q) ((e 3) + (e 4)) ((e 4) + w)) (cwV 5 hts gX0_advance_X0_move rfl rfl rfl (by decide +kernel) ⟨Nat.le_of_ble_eq_true rfl, Nat.le_of_ble_eq_true rfl⟩) (kp_preV (q := (RX0, TX0, 8)) hN hK hP hD 0 rfl rfl) rfl rfl hl.1 rfl (lv_room (Nat.le_of_ble_eq_true rfl)) dX0_advance_52 ⟨Nat.le_of_ble_eq_true rfl, Nat.le_of_ble_eq_true rfl⟩) hP hD hS hA (fun r_1 u_1 H locs p_1 hP hD hS => ?_)
  rcases p_1 with ⟨p_1, rfl, rfl⟩ | ⟨p_1, rfl, rfl⟩
  · have hP : va_P D vwCl ([(h0, .inr (0, tk_ev (tk_mv e (((e 0) + (e 1)) + n) (e 1) ((((e 2) + (2 * (e 3))) + (e 4)) + q) ((e 3) + (e 4)) ((e 4) + w))))]) H := hP
    have hD : va_D A ([(h0, .inr (0, tk_ev (tk_mv e (((e 0) + (e 1)) + n) (e 1) ((((e 2) + (2 * (e 3))) + (e 4)) + q) ((e 3) + (e 4)) ((e 4) + w))))]) := hD
    exact W.zret (v := 1) hx hb hr rfl (fun t ht hW => ⟨⟨1, ad_e e n q w, rfl, Or.inl ⟨p_1, rfl, rfl⟩, KB.of hAe (by rw [ht]; exact hP) hD⟩, hS.F ht⟩) hS.2.2 dX0_advance_55
  · have hP : va_P D vwCl ([(h0, .inr (0, tk_ev e))]) H := hP
    have hD : va_D A ([(h0, .inr (0, tk_ev e))]) := hD
    exact W.zret (v := 0) hx hb hr rfl (fun t ht hW => ⟨⟨0, e, rfl, Or.inr ⟨p_1, rfl, rfl⟩, KB.of hAe (by rw [ht]; exact hP) hD⟩, hS.F ht⟩) hS.2.2 dX0_advance_55

theorem izX0_take_0 : ∀ w ∈ wsX00, w ∈ wsX0_take := fun _ h => List.mem_cons_of_mem _ (List.mem_append_right _ h)
set_option maxHeartbeats 4000000 in
set_option maxRecDepth 100000 in
/-- take -/
theorem k_X0_take (l : Launch) (D : va_G) (cI cM cJ : ClassId) (sz : Nat) (h0 : Nat) (e : Nat → Int64) (z : Int64) (kd : Int32) (v g : Int64) (hs : 0 < co_p e kd + v) : Met l yX0_take wsX0_take ({ frames := 2, cells := 0, slots := 0, locals := 56 }) (va_Pc [.ref h0, .long z, .int kd, .long v, .long g] (KP D (tk_T cI cM cJ) ([(h0, .inr (0, tk_ev e))]) sz)) (va_Qi (fun (r : Int32) (u : Nat → Int64) => (co_rej e kd z v g ∧ r = 0 ∧ u = tk_y e (z - co_m e kd)) ∨ (¬ co_rej e kd z v g ∧ co_ok e kd z v = true ∧ r = 1 ∧ u = co_e e kd z v) ∨ (¬ co_rej e kd z v g ∧ co_ok e kd z v = false ∧ r = -2000000004 ∧ u = e)) (fun u t => KB D ([(h0, .inr (0, tk_ev e))]) ([(h0, .inr (0, tk_ev u))]) sz t) (va_A ([(h0, .inr (0, tk_ev e))]) sz)) 0 0 (va_A ([(h0, .inr (0, tk_ev e))]) sz) := by
  refine Met.ofW (cc := cX0_take) (maxL := 22) (ret := (some .int)) (by decide) rfl ?_
  intro p e s m args below meth c s₁ B hml hv
  obtain ⟨rfl, hsz, hP, hK, hD0, hN⟩ := hv
  have hx := B.exec
  have hb := B.bytes
  have hr := B.returns
  have hts := atoms_spec (ws := wsX0_take) B.pre
  have hm : ∀ (i : Nat) (w : Cond), wsX0_take[i]? = some w → w.before _ s = true := fun i w h => hts w (List.mem_of_getElem? h)
  have hown : s.vm.findClass RX0 = some m.cls := findClass_of_methodNamed B.named
  have hlocks := B.notSynchronized
  subst hsz
  have hD := hD0.self (sz := s.heap.size)
  generalize hAe : va_A ([(h0, .inr (0, tk_ev e))]) s.heap.size = A at hD ⊢
  have hA : ∀ q : Nat, s.heap.size ≤ q → A q := fun q h => by rw [← hAe]; exact Or.inr h
  have hS : va_S A s.heap s.heap [] := va_S.rf
  have hP : va_P D vwCl ([(h0, .inr (0, tk_ev e))]) s.heap := hP
  have hl := lv_entry ([.ref h0, .long z, .int kd, .long v, .long g]) (n := 22) (Nat.le_of_ble_eq_true rfl)
  rw [lg_entry_eq]
  generalize (lg_sl ([.ref h0, .long z, .int kd, .long v, .long g]) ++ List.replicate (22 - (lg_sl ([.ref h0, .long z, .int kd, .long v, .long g])).length) Slot.unset).toArray = ls at hl ⊢
  have hl : lv_has ls 22 [(0, .ref h0), (1, .long z), (3, .int kd), (4, .long v), (6, .long g)] := hl
  refine lv_iload_n hx hb dX0_take_0 rfl (lv_at hl 2 rfl) ?_
  refine lv_if_ne (tgt := 8) hx hb dX0_take_1 (by decide) (fun c_1 => ?_) (fun c_1 => ?_)
  · skip
    refine lv_iconst (v := 0) hx hb dX0_take_8 (by decide) ?_
    refine lv_istore (lv' := [(8, .int 0), (0, .ref h0), (1, .long z), (3, .int kd), (4, .long v), (6, .long g)]) hx hb dX0_take_9 hl (by decide) rfl (fun ls hl => ?_)
    refine lv_iload hx hb dX0_take_11 (lv_at hl 0 rfl) ?_
    refine lv_if_eq (tgt := 23) hx hb dX0_take_13 (by decide) (fun c_2 => ?_) (fun c_2 => ?_)
    · skip
      refine lv_aload_n hx hb dX0_take_23 rfl (lv_at hl 1 rfl) ?_
      refine va_get (D := D) (ci := 0) (v := .long (e 3)) (C := RX0) (T := TX0) (N := 8) hx hb hts izX0_take_0 hown hK hP 0 rfl rfl 3 (by decide) (hm 2 (.fieldLink RX0 23 "TankFilter$Estimate" "covariance" "J") rfl) (fun _ h9 => h9) rfl dX0_take_24 ?_
      refine lv_lstore (lv' := [(9, .long (e 3)), (8, .int 0), (0, .ref h0), (1, .long z), (3, .int kd), (4, .long v), (6, .long g)]) hx hb dX0_take_27 hl (by decide) rfl (fun ls hl => ?_)
      refine lv_iload hx hb dX0_take_29 (lv_at hl 1 rfl) ?_
      refine lv_if_eq (tgt := 41) hx hb dX0_take_31 (by decide) (fun c_3 => ?_) (fun c_3 => ?_)
      · skip
        refine lv_aload_n hx hb dX0_take_41 rfl (lv_at hl 2 rfl) ?_
        refine va_get (D := D) (ci := 0) (v := .long (e 4)) (C := RX0) (T := TX0) (N := 8) hx hb hts izX0_take_0 hown hK hP 0 rfl rfl 4 (by decide) (hm 3 (.fieldLink RX0 26 "TankFilter$Estimate" "flowVariance" "J") rfl) (fun _ h9 => h9) rfl dX0_take_42 ?_
        refine lv_lstore (lv' := [(11, .long (e 4)), (9, .long (e 3)), (8, .int 0), (0, .ref h0), (1, .long z), (3, .int kd), (4, .long v), (6, .long g)]) hx hb dX0_take_45 hl (by decide) rfl (fun ls hl => ?_)
        refine lv_lload_n hx hb dX0_take_47 rfl (lv_at hl 4 rfl) ?_
        refine lv_aload_n hx hb dX0_take_48 rfl (lv_at hl 3 rfl) ?_
        refine lv_iload_n hx hb dX0_take_49 rfl (lv_at hl 5 rfl) ?_
        refine kc_l (wc := [(h0, .inr (0, tk_ev e))]) (wr := []) (va_runV (As := [.int kd]) (rest := [.long z]) ⟨hx, hb, hml, hown, hts⟩ (k_X0_mean l D cI cM cJ H.size h0 e kd) (cwV 1 hts gX0_take_X0_mean rfl rfl rfl (by decide +kernel) ⟨Nat.le_of_ble_eq_true rfl, Nat.le_of_ble_eq_true rfl⟩) (kp_preV (q := (RX0, TX0, 8)) hN hK hP hD 0 rfl rfl) rfl rfl hl.1 rfl (lv_room (Nat.le_of_ble_eq_true rfl)) dX0_take_50 ⟨Nat.le_of_ble_eq_true rfl, Nat.le_of_ble_eq_true rfl⟩) hP hD hS hA (fun r_4 u_4 H locs p_4 hP hD hS => ?_)
        obtain rfl : r_4 = e 1 := p_4.trans (co_m1 c_1)
        have hP : va_P D vwCl ([(h0, .inr (0, tk_ev e))]) H := hP
        have hD : va_D A ([(h0, .inr (0, tk_ev e))]) := hD
        refine lv_lsub hx hb dX0_take_53 ?_
        refine lv_lstore (lv' := [(13, .long (z - (e 1))), (11, .long (e 4)), (9, .long (e 3)), (8, .int 0), (0, .ref h0), (1, .long z), (3, .int kd), (4, .long v), (6, .long g)]) hx hb dX0_take_54 hl (by decide) rfl (fun ls hl => ?_)
        refine lv_iload hx hb dX0_take_56 (lv_at hl 3 rfl) ?_
        refine lv_if_eq (tgt := 68) hx hb dX0_take_58 (by decide) (fun c_5 => ?_) (fun c_5 => ?_)
        · skip
          refine lv_aload_n hx hb dX0_take_68 rfl (lv_at hl 4 rfl) ?_
          refine va_get (D := D) (ci := 0) (v := .long (e 4)) (C := RX0) (T := TX0) (N := 8) hx hb hts izX0_take_0 hown hK hP 0 rfl rfl 4 (by decide) (hm 3 (.fieldLink RX0 26 "TankFilter$Estimate" "flowVariance" "J") rfl) (fun _ h9 => h9) rfl dX0_take_69 ?_
          refine lv_lload hx hb dX0_take_72 (lv_at hl 7 rfl) ?_
          refine lv_ladd hx hb dX0_take_74 ?_
          refine lv_lstore (lv' := [(15, .long ((e 4) + v)), (13, .long (z - (e 1))), (11, .long (e 4)), (9, .long (e 3)), (8, .int 0), (0, .ref h0), (1, .long z), (3, .int kd), (4, .long v), (6, .long g)]) hx hb dX0_take_75 hl (by decide) rfl (fun ls hl => ?_)
          refine lv_lload hx hb dX0_take_77 (lv_at hl 9 rfl) ?_
          refine lv_lconst (v := 0) hx hb dX0_take_79 (by decide) ?_
          refine W.lcmp hx hb dX0_take_80 ?_
          refine lv_if_eq (tgt := 110) hx hb dX0_take_81 (by decide) (fun c_6 => ?_) (fun c_6 => ?_)
          · have c_6 := (lg_cmp_eq _ _).mp c_6
            refine lv_lload hx hb dX0_take_110 (lv_at hl 3 rfl) ?_
            refine lv_lload hx hb dX0_take_112 (lv_at hl 0 rfl) ?_
            refine kc_l (wc := []) (wr := [(h0, .inr (0, tk_ev e))]) (va_runSN (As := [.long (e 3), .long ((e 4) + v)]) (rest := []) ⟨hx, hb, hml, hown, hts⟩ (k_X3_dividedBy l D cI cM cJ H.size (e 3) ((e 4) + v) ((co_p1 c_1) ▸ hs)) ⟨va_cnB 2 hts gX0_take_X3_dividedBy_n50 rfl rfl rfl (hN.at 37 rfl) (hm 17 (.initialized RX3) rfl) (by decide +kernel) ⟨Nat.le_of_ble_eq_true rfl, Nat.le_of_ble_eq_true rfl⟩, (hm 16 (.static yX3_dividedBy) rfl), trivial⟩ (kp_preS hN hK hP hD) rfl rfl hl.1 rfl (lv_room (Nat.le_of_ble_eq_true rfl)) dX0_take_114 ⟨Nat.le_of_ble_eq_true rfl, Nat.le_of_ble_eq_true rfl⟩) hP hD hS hA (fun r_7 u_7 H locs p_7 hP hD hS => ?_)
            obtain rfl : r_7 = tk_div (e 3) ((e 4) + v) := p_7
            have hP : va_P D vwCl ([(h0, .inr (0, tk_ev e))]) H := hP
            have hD : va_D A ([(h0, .inr (0, tk_ev e))]) := hD
            refine lv_lstore (lv' := [(17, .long (tk_div (e 3) ((e 4) + v))), (15, .long ((e 4) + v)), (13, .long (z - (e 1))), (11, .long (e 4)), (9, .long (e 3)), (8, .int 0), (0, .ref h0), (1, .long z), (3, .int kd), (4, .long v), (6, .long g)]) hx hb dX0_take_117 hl (by decide) rfl (fun ls hl => ?_)
            refine lv_lload hx hb dX0_take_119 (lv_at hl 3 rfl) ?_
            refine lv_lload hx hb dX0_take_121 (lv_at hl 1 rfl) ?_
            refine kc_l (wc := []) (wr := [(h0, .inr (0, tk_ev e))]) (va_runSN (As := [.long (e 4), .long ((e 4) + v)]) (rest := []) ⟨hx, hb, hml, hown, hts⟩ (k_X3_dividedBy l D cI cM cJ H.size (e 4) ((e 4) + v) ((co_p1 c_1) ▸ hs)) ⟨va_cnB 2 hts gX0_take_X3_dividedBy_n50 rfl rfl rfl (hN.at 37 rfl) (hm 17 (.initialized RX3) rfl) (by decide +kernel) ⟨Nat.le_of_ble_eq_true rfl, Nat.le_of_ble_eq_true rfl⟩, (hm 16 (.static yX3_dividedBy) rfl), trivial⟩ (kp_preS hN hK hP hD) rfl rfl hl.1 rfl (lv_room (Nat.le_of_ble_eq_true rfl)) dX0_take_123 ⟨Nat.le_of_ble_eq_true rfl, Nat.le_of_ble_eq_true rfl⟩) hP hD hS hA (fun r_8 u_8 H locs p_8 hP hD hS => ?_)
            obtain rfl : r_8 = tk_div (e 4) ((e 4) + v) := p_8
            have hP : va_P D vwCl ([(h0, .inr (0, tk_ev e))]) H := hP
            have hD : va_D A ([(h0, .inr (0, tk_ev e))]) := hD
            refine lv_lstore (lv' := [(19, .long (tk_div (e 4) ((e 4) + v))), (17, .long (tk_div (e 3) ((e 4) + v))), (15, .long ((e 4) + v)), (13, .long (z - (e 1))), (11, .long (e 4)), (9, .long (e 3)), (8, .int 0), (0, .ref h0), (1, .long z), (3, .int kd), (4, .long v), (6, .long g)]) hx hb dX0_take_126 hl (by decide) rfl (fun ls hl => ?_)
            refine lv_lload hx hb dX0_take_128 (lv_at hl 1 rfl) ?_
            refine kc_i (wc := []) (wr := [(h0, .inr (0, tk_ev e))]) (va_runSN (As := [.long (tk_div (e 3) ((e 4) + v))]) (rest := []) ⟨hx, hb, hml, hown, hts⟩ (k_X3_isInLimit l D cI cM cJ H.size (tk_div (e 3) ((e 4) + v))) ⟨va_cnB 1 hts gX0_take_X3_isInLimit_n54 rfl rfl rfl (hN.at 34 rfl) (hm 17 (.initialized RX3) rfl) (by decide +kernel) ⟨Nat.le_of_ble_eq_true rfl, Nat.le_of_ble_eq_true rfl⟩, (hm 25 (.static yX3_isInLimit) rfl), trivial⟩ (kp_preS hN hK hP hD) rfl rfl hl.1 rfl (lv_room (Nat.le_of_ble_eq_true rfl)) dX0_take_130 ⟨Nat.le_of_ble_eq_true rfl, Nat.le_of_ble_eq_true rfl⟩) hP hD hS hA (fun r_9 u_9 H locs p_9 hP hD hS => ?_)
            rcases p_9 with ⟨p_9, rfl⟩ | ⟨p_9, rfl⟩
            · have hP : va_P D vwCl ([(h0, .inr (0, tk_ev e))]) H := hP
              have hD : va_D A ([(h0, .inr (0, tk_ev e))]) := hD
              refine lv_if_eq (tgt := 144) hx hb dX0_take_133 (by decide) (fun c_10 => ?_) (fun c_10 => ?_)
              · exact absurd c_10 (by decide)
              · skip
                refine lv_lload hx hb dX0_take_136 (lv_at hl 0 rfl) ?_
                refine kc_i (wc := []) (wr := [(h0, .inr (0, tk_ev e))]) (va_runSN (As := [.long (tk_div (e 4) ((e 4) + v))]) (rest := []) ⟨hx, hb, hml, hown, hts⟩ (k_X3_isInLimit l D cI cM cJ H.size (tk_div (e 4) ((e 4) + v))) ⟨va_cnB 1 hts gX0_take_X3_isInLimit_n54 rfl rfl rfl (hN.at 34 rfl) (hm 17 (.initialized RX3) rfl) (by decide +kernel) ⟨Nat.le_of_ble_eq_true rfl, Nat.le_of_ble_eq_true rfl⟩, (hm 25 (.static yX3_isInLimit) rfl), trivial⟩ (kp_preS hN hK hP hD) rfl rfl hl.1 rfl (lv_room (Nat.le_of_ble_eq_true rfl)) dX0_take_138 ⟨Nat.le_of_ble_eq_true rfl, Nat.le_of_ble_eq_true rfl⟩) hP hD hS hA (fun r_11 u_11 H locs p_11 hP hD hS => ?_)
                rcases p_11 with ⟨p_11, rfl⟩ | ⟨p_11, rfl⟩
                · have hP : va_P D vwCl ([(h0, .inr (0, tk_ev e))]) H := hP
                  have hD : va_D A ([(h0, .inr (0, tk_ev e))]) := hD
                  refine lv_if_ne (tgt := 147) hx hb dX0_take_141 (by decide) (fun c_12 => ?_) (fun c_12 => ?_)
                  · skip
                    refine lv_aload_n hx hb dX0_take_147 rfl (lv_at hl 7 rfl) ?_
                    refine lv_aload_n hx hb dX0_take_148 rfl (lv_at hl 7 rfl) ?_
                    refine va_get (D := D) (ci := 0) (v := .long (e 0)) (C := RX0) (T := TX0) (N := 8) hx hb hts izX0_take_0 hown hK hP 0 rfl rfl 0 (by decide) (hm 7 (.fieldLink RX0 9 "TankFilter$Estimate" "level" "J") rfl) (fun _ h9 => h9) rfl dX0_take_149 ?_
                    refine lv_lload hx hb dX0_take_152 (lv_at hl 1 rfl) ?_
                    refine lv_lload hx hb dX0_take_154 (lv_at hl 3 rfl) ?_
                    refine kc_l (wc := []) (wr := [(h0, .inr (0, tk_ev e))]) (va_runSN (As := [.long (tk_div (e 3) ((e 4) + v)), .long (z - (e 1))]) (rest := [.long (e 0), .ref h0]) ⟨hx, hb, hml, hown, hts⟩ (k_X3_times l D cI cM cJ H.size (tk_div (e 3) ((e 4) + v)) (z - (e 1))) ⟨va_cnB 2 hts gX0_take_X3_times_n59 rfl rfl rfl (hN.at 38 rfl) (hm 17 (.initialized RX3) rfl) (by decide +kernel) ⟨Nat.le_of_ble_eq_true rfl, Nat.le_of_ble_eq_true rfl⟩, (hm 29 (.static yX3_times) rfl), trivial⟩ (kp_preS hN hK hP hD) rfl rfl hl.1 rfl (lv_room (Nat.le_of_ble_eq_true rfl)) dX0_take_156 ⟨Nat.le_of_ble_eq_true rfl, Nat.le_of_ble_eq_true rfl⟩) hP hD hS hA (fun r_13 u_13 H locs p_13 hP hD hS => ?_)
                    obtain rfl : r_13 = tk_mul (tk_div (e 3) ((e 4) + v)) (z - (e 1)) := p_13
                    have hP : va_P D vwCl ([(h0, .inr (0, tk_ev e))]) H := hP
                    have hD : va_D A ([(h0, .inr (0, tk_ev e))]) := hD
                    refine lv_ladd hx hb dX0_take_159 ?_
                    refine lv_aload_n hx hb dX0_take_160 rfl (lv_at hl 7 rfl) ?_
                    refine va_get (D := D) (ci := 0) (v := .long (e 1)) (C := RX0) (T := TX0) (N := 8) hx hb hts izX0_take_0 hown hK hP 0 rfl rfl 1 (by decide) (hm 8 (.fieldLink RX0 15 "TankFilter$Estimate" "flow" "J") rfl) (fun _ h9 => h9) rfl dX0_take_161 ?_
                    refine lv_lload hx hb dX0_take_164 (lv_at hl 0 rfl) ?_
                    refine lv_lload hx hb dX0_take_166 (lv_at hl 3 rfl) ?_
                    refine kc_l (wc := []) (wr := [(h0, .inr (0, tk_ev e))]) (va_runSN (As := [.long (tk_div (e 4) ((e 4) + v)), .long (z - (e 1))]) (rest := [.long (e 1), .long ((e 0) + (tk_mul (tk_div (e 3) ((e 4) + v)) (z - (e 1)))), .ref h0]) ⟨hx, hb, hml, hown, hts⟩ (k_X3_times l D cI cM cJ H.size (tk_div (e 4) ((e 4) + v)) (z - (e 1))) ⟨va_cnB 2 hts gX0_take_X3_times_n59 rfl rfl rfl (hN.at 38 rfl) (hm 17 (.initialized RX3) rfl) (by decide +kernel) ⟨Nat.le_of_ble_eq_true rfl, Nat.le_of_ble_eq_true rfl⟩, (hm 29 (.static yX3_times) rfl), trivial⟩ (kp_preS hN hK hP hD) rfl rfl hl.1 rfl (lv_room (Nat.le_of_ble_eq_true rfl)) dX0_take_168 ⟨Nat.le_of_ble_eq_true rfl, Nat.le_of_ble_eq_true rfl⟩) hP hD hS hA (fun r_14 u_14 H locs p_14 hP hD hS => ?_)
                    obtain rfl : r_14 = tk_mul (tk_div (e 4) ((e 4) + v)) (z - (e 1)) := p_14
                    have hP : va_P D vwCl ([(h0, .inr (0, tk_ev e))]) H := hP
                    have hD : va_D A ([(h0, .inr (0, tk_ev e))]) := hD
                    refine lv_ladd hx hb dX0_take_171 ?_
                    refine lv_aload_n hx hb dX0_take_172 rfl (lv_at hl 7 rfl) ?_
                    refine va_get (D := D) (ci := 0) (v := .long (e 2)) (C := RX0) (T := TX0) (N := 8) hx hb hts izX0_take_0 hown hK hP 0 rfl rfl 2 (by decide) (hm 1 (.fieldLink RX0 20 "TankFilter$Estimate" "levelVariance" "J") rfl) (fun _ h9 => h9) rfl dX0_take_173 ?_
                    refine lv_lload hx hb dX0_take_176 (lv_at hl 1 rfl) ?_
                    refine lv_lload hx hb dX0_take_178 (lv_at hl 5 rfl) ?_
                    refine kc_l (wc := []) (wr := [(h0, .inr (0, tk_ev e))]) (va_runSN (As := [.long (tk_div (e 3) ((e 4) + v)), .long (e 3)]) (rest := [.long (e 2), .long ((e 1) + (tk_mul (tk_div (e 4) ((e 4) + v)) (z - (e 1)))), .long ((e 0) + (tk_mul (tk_div (e 3) ((e 4) + v)) (z - (e 1)))), .ref h0]) ⟨hx, hb, hml, hown, hts⟩ (k_X3_times l D cI cM cJ H.size (tk_div (e 3) ((e 4) + v)) (e 3)) ⟨va_cnB 2 hts gX0_take_X3_times_n59 rfl rfl rfl (hN.at 38 rfl) (hm 17 (.initialized RX3) rfl) (by decide +kernel) ⟨Nat.le_of_ble_eq_true rfl, Nat.le_of_ble_eq_true rfl⟩, (hm 29 (.static yX3_times) rfl), trivial⟩ (kp_preS hN hK hP hD) rfl rfl hl.1 rfl (lv_room (Nat.le_of_ble_eq_true rfl)) dX0_take_180 ⟨Nat.le_of_ble_eq_true rfl, Nat.le_of_ble_eq_true rfl⟩) hP hD hS hA (fun r_15 u_15 H locs p_15 hP hD hS => ?_)
                    obtain rfl : r_15 = tk_mul (tk_div (e 3) ((e 4) + v)) (e 3) := p_15
                    have hP : va_P D vwCl ([(h0, .inr (0, tk_ev e))]) H := hP
                    have hD : va_D A ([(h0, .inr (0, tk_ev e))]) := hD
                    refine lv_lsub hx hb dX0_take_183 ?_
                    refine lv_aload_n hx hb dX0_take_184 rfl (lv_at hl 7 rfl) ?_
                    refine va_get (D := D) (ci := 0) (v := .long (e 3)) (C := RX0) (T := TX0) (N := 8) hx hb hts izX0_take_0 hown hK hP 0 rfl rfl 3 (by decide) (hm 2 (.fieldLink RX0 23 "TankFilter$Estimate" "covariance" "J") rfl) (fun _ h9 => h9) rfl dX0_take_185 ?_
                    refine lv_lload hx hb dX0_take_188 (lv_at hl 1 rfl) ?_
                    refine lv_lload hx hb dX0_take_190 (lv_at hl 4 rfl) ?_
                    refine kc_l (wc := []) (wr := [(h0, .inr (0, tk_ev e))]) (kw_runSN 16 2 (As := [.long (tk_div (e 3) ((e 4) + v)), .long (e 4)]) (rest := [.long (e 3), .long ((e 2) - (tk_mul (tk_div (e 3) ((e 4) + v)) (e 3))), .long ((e 1) + (tk_mul (tk_div (e 4) ((e 4) + v)) (z - (e 1)))), .long ((e 0) + (tk_mul (tk_div (e 3) ((e 4) + v)) (z - (e 1)))), .ref h0]) ⟨hx, hb, hml, hown, hts⟩ (k_X3_times l D cI cM cJ H.size (tk_div (e 3) ((e 4) + v)) (e 4)) gX0_take_X3_times_n59 rfl rfl rfl (hN.at 38 rfl) (hm 17 (.initialized RX3) rfl) (hm 29 (.static yX3_times) rfl) (by decide +kernel) ⟨Nat.le_of_ble_eq_true rfl, Nat.le_of_ble_eq_true rfl⟩ (kp_preS hN hK hP hD) rfl rfl hl.1 rfl (kw_room (Nat.le_of_ble_eq_true rfl)) dX0_take_192 ⟨Nat.le_of_ble_eq_true rfl, Nat.le_of_ble_eq_true rfl⟩) hP hD hS hA (fun r_16 u_16 H locs p_16 hP hD hS => ?_)
                    obtain rfl : r_16 = tk_mul (tk_div (e 3) ((e 4) + v)) (e 4) := p_16
                    have hP : va_P D vwCl ([(h0, .inr (0, tk_ev e))]) H := hP
                    have hD : va_D A ([(h0, .inr (0, tk_ev e))]) := hD
                    refine lv_lsub hx hb dX0_take_195 ?_
                    refine lv_aload_n hx hb dX0_take_196 rfl (lv_at hl 7 rfl) ?_
                    refine va_get (D := D) (ci := 0) (v := .long (e 4)) (C := RX0) (T := TX0) (N := 8) hx hb hts izX0_take_0 hown hK hP 0 rfl rfl 4 (by decide) (hm 3 (.fieldLink RX0 26 "TankFilter$Estimate" "flowVariance" "J") rfl) (fun _ h9 => h9) rfl dX0_take_197 ?_
                    refine lv_lload hx hb dX0_take_200 (lv_at hl 0 rfl) ?_
                    refine lv_lload hx hb dX0_take_202 (lv_at hl 4 rfl) ?_
                    refine kc_l (wc := []) (wr := [(h0, .inr (0, tk_ev e))]) (kw_runSN 16 2 (As := [.long (tk_div (e 4) ((e 4) + v)), .long (e 4)]) (rest := [.long (e 4), .long ((e 3) - (tk_mul (tk_div (e 3) ((e 4) + v)) (e 4))), .long ((e 2) - (tk_mul (tk_div (e 3) ((e 4) + v)) (e 3))), .long ((e 1) + (tk_mul (tk_div (e 4) ((e 4) + v)) (z - (e 1)))), .long ((e 0) + (tk_mul (tk_div (e 3) ((e 4) + v)) (z - (e 1)))), .ref h0]) ⟨hx, hb, hml, hown, hts⟩ (k_X3_times l D cI cM cJ H.size (tk_div (e 4) ((e 4) + v)) (e 4)) gX0_take_X3_times_n59 rfl rfl rfl (hN.at 38 rfl) (hm 17 (.initialized RX3) rfl) (hm 29 (.static yX3_times) rfl) (by decide +kernel) ⟨Nat.le_of_ble_eq_true rfl, Nat.le_of_ble_eq_true rfl⟩ (kp_preS hN hK hP hD) rfl rfl hl.1 rfl (kw_room (Nat.le_of_ble_eq_true rfl)) dX0_take_204 ⟨Nat.le_of_ble_eq_true rfl, Nat.le_of_ble_eq_true rfl⟩) hP hD hS hA (fun r_17 u_17 H locs p_17 hP hD hS => ?_)
                    obtain rfl : r_17 = tk_mul (tk_div (e 4) ((e 4) + v)) (e 4) := p_17
                    have hP : va_P D vwCl ([(h0, .inr (0, tk_ev e))]) H := hP
                    have hD : va_D A ([(h0, .inr (0, tk_ev e))]) := hD
                    refine lv_lsub hx hb dX0_take_207 ?_
                    refine kc_i (wc := [(h0, .inr (0, tk_ev e))]) (wr := []) (va_runV (As := [.long ((e 0) + (tk_mul (tk_div (e 3) ((e 4) + v)) (z - (e 1)))), .long ((e 1) + (tk_mul (tk_div (e 4) ((e 4) + v)) (z - (e 1)))), .long ((e 2) - (tk_mul (tk_div (e 3) ((e 4) + v)) (e 3))), .long ((e 3) - (tk_mul (tk_div (e 3) ((e 4) + v)) (e 4))), .long ((e 4) - (tk_mul (tk_div (e 4) ((e 4) + v)) (e 4)))]) (rest := []) ⟨hx, hb, hml, hown, hts⟩ (k_X0_move l D cI cM cJ H.size h0 e ((e 0) + (tk_mul (tk_div (e 3) ((e 4) + v)) (z - (e 1)))) ((e 1) + (tk_mul (tk_div (e 4) ((e 4) + v)) (z - (e 1)))) ((e 2) - (tk_mul (tk_div (e 3) ((e 4) + v)) (e 3))) ((e 3) - (tk_mul (tk_div (e 3) ((e 4) + v)) (e 4))) ((e 4) - (tk_mul (tk_div (e 4) ((e 4) + v)) (e 4)))) (cwV 5 hts gX0_take_X0_move rfl rfl rfl (by decide +kernel) ⟨Nat.le_of_ble_eq_true rfl, Nat.le_of_ble_eq_true rfl⟩) (kp_preV (q := (RX0, TX0, 8)) hN hK hP hD 0 rfl rfl) rfl rfl hl.1 rfl (lv_room (Nat.le_of_ble_eq_true rfl)) dX0_take_208 ⟨Nat.le_of_ble_eq_true rfl, Nat.le_of_ble_eq_true rfl⟩) hP hD hS hA (fun r_18 u_18 H locs p_18 hP hD hS => ?_)
                    rcases p_18 with ⟨p_18, rfl, rfl⟩ | ⟨p_18, rfl, rfl⟩
                    · have hP : va_P D vwCl ([(h0, .inr (0, tk_ev (tk_mv e ((e 0) + (tk_mul (tk_div (e 3) ((e 4) + v)) (z - (e 1)))) ((e 1) + (tk_mul (tk_div (e 4) ((e 4) + v)) (z - (e 1)))) ((e 2) - (tk_mul (tk_div (e 3) ((e 4) + v)) (e 3))) ((e 3) - (tk_mul (tk_div (e 3) ((e 4) + v)) (e 4))) ((e 4) - (tk_mul (tk_div (e 4) ((e 4) + v)) (e 4))))))]) H := hP
                      have hD : va_D A ([(h0, .inr (0, tk_ev (tk_mv e ((e 0) + (tk_mul (tk_div (e 3) ((e 4) + v)) (z - (e 1)))) ((e 1) + (tk_mul (tk_div (e 4) ((e 4) + v)) (z - (e 1)))) ((e 2) - (tk_mul (tk_div (e 3) ((e 4) + v)) (e 3))) ((e 3) - (tk_mul (tk_div (e 3) ((e 4) + v)) (e 4))) ((e 4) - (tk_mul (tk_div (e 4) ((e 4) + v)) (e 4))))))]) := hD
                      refine lv_istore (lv' := [(21, .int 1), (19, .long (tk_div (e 4) ((e 4) + v))), (17, .long (tk_div (e 3) ((e 4) + v))), (15, .long ((e 4) + v)), (13, .long (z - (e 1))), (11, .long (e 4)), (9, .long (e 3)), (8, .int 0), (0, .ref h0), (1, .long z), (3, .int kd), (4, .long v), (6, .long g)]) hx hb dX0_take_211 hl (by decide) rfl (fun ls hl => ?_)
                      refine lv_iload hx hb dX0_take_213 (lv_at hl 0 rfl) ?_
                      refine lv_if_ne (tgt := 221) hx hb dX0_take_215 (by decide) (fun c_19 => ?_) (fun c_19 => ?_)
                      · skip
                        refine lv_aload_n hx hb dX0_take_221 rfl (lv_at hl 8 rfl) ?_
                        refine lv_lload hx hb dX0_take_222 (lv_at hl 4 rfl) ?_
                        refine va_put (D := D) (ci := 0) (v := .long (z - (e 1))) (ty := .long) (C := RX0) (T := TX0) (N := 8) hx hb hts izX0_take_0 tyX0 tyX0_ok nmX0 hown hK hP hD hS 0 rfl rfl 5 (by decide) (hm 5 (.fieldLink RX0 31 "TankFilter$Estimate" "innovation" "J") rfl) (fun _ h9 => h9) rfl (by decide +kernel) rfl rfl (Nat.le_of_ble_eq_true rfl) dX0_take_224 (fun H locs hP hD hS => ?_)
                        have hP : va_P D vwCl ([(h0, .inr (0, [.long ((tk_mv e ((e 0) + (tk_mul (tk_div (e 3) ((e 4) + v)) (z - (e 1)))) ((e 1) + (tk_mul (tk_div (e 4) ((e 4) + v)) (z - (e 1)))) ((e 2) - (tk_mul (tk_div (e 3) ((e 4) + v)) (e 3))) ((e 3) - (tk_mul (tk_div (e 3) ((e 4) + v)) (e 4))) ((e 4) - (tk_mul (tk_div (e 4) ((e 4) + v)) (e 4)))) 0), .long ((tk_mv e ((e 0) + (tk_mul (tk_div (e 3) ((e 4) + v)) (z - (e 1)))) ((e 1) + (tk_mul (tk_div (e 4) ((e 4) + v)) (z - (e 1)))) ((e 2) - (tk_mul (tk_div (e 3) ((e 4) + v)) (e 3))) ((e 3) - (tk_mul (tk_div (e 3) ((e 4) + v)) (e 4))) ((e 4) - (tk_mul (tk_div (e 4) ((e 4) + v)) (e 4)))) 1), .long ((tk_mv e ((e 0) + (tk_mul (tk_div (e 3) ((e 4) + v)) (z - (e 1)))) ((e 1) + (tk_mul (tk_div (e 4) ((e 4) + v)) (z - (e 1)))) ((e 2) - (tk_mul (tk_div (e 3) ((e 4) + v)) (e 3))) ((e 3) - (tk_mul (tk_div (e 3) ((e 4) + v)) (e 4))) ((e 4) - (tk_mul (tk_div (e 4) ((e 4) + v)) (e 4)))) 2), .long ((tk_mv e ((e 0) + (tk_mul (tk_div (e 3) ((e 4) + v)) (z - (e 1)))) ((e 1) + (tk_mul (tk_div (e 4) ((e 4) + v)) (z - (e 1)))) ((e 2) - (tk_mul (tk_div (e 3) ((e 4) + v)) (e 3))) ((e 3) - (tk_mul (tk_div (e 3) ((e 4) + v)) (e 4))) ((e 4) - (tk_mul (tk_div (e 4) ((e 4) + v)) (e 4)))) 3), .long ((tk_mv e ((e 0) + (tk_mul (tk_div (e 3) ((e 4) + v)) (z - (e 1)))) ((e 1) + (tk_mul (tk_div (e 4) ((e 4) + v)) (z - (e 1)))) ((e 2) - (tk_mul (tk_div (e 3) ((e 4) + v)) (e 3))) ((e 3) - (tk_mul (tk_div (e 3) ((e 4) + v)) (e 4))) ((e 4) - (tk_mul (tk_div (e 4) ((e 4) + v)) (e 4)))) 4), .long (z - (e 1)), .long ((tk_mv e ((e 0) + (tk_mul (tk_div (e 3) ((e 4) + v)) (z - (e 1)))) ((e 1) + (tk_mul (tk_div (e 4) ((e 4) + v)) (z - (e 1)))) ((e 2) - (tk_mul (tk_div (e 3) ((e 4) + v)) (e 3))) ((e 3) - (tk_mul (tk_div (e 3) ((e 4) + v)) (e 4))) ((e 4) - (tk_mul (tk_div (e 4) ((e 4) + v)) (e 4)))) 6), .long ((tk_mv e ((e 0) + (tk_mul (tk_div (e 3) ((e 4) + v)) (z - (e 1)))) ((e 1) + (tk_mul (tk_div (e 4) ((e 4) + v)) (z - (e 1)))) ((e 2) - (tk_mul (tk_div (e 3) ((e 4) + v)) (e 3))) ((e 3) - (tk_mul (tk_div (e 3) ((e 4) + v)) (e 4))) ((e 4) - (tk_mul (tk_div (e 4) ((e 4) + v)) (e 4)))) 7)]))]) H := hP
                        have hD : va_D A ([(h0, .inr (0, [.long ((tk_mv e ((e 0) + (tk_mul (tk_div (e 3) ((e 4) + v)) (z - (e 1)))) ((e 1) + (tk_mul (tk_div (e 4) ((e 4) + v)) (z - (e 1)))) ((e 2) - (tk_mul (tk_div (e 3) ((e 4) + v)) (e 3))) ((e 3) - (tk_mul (tk_div (e 3) ((e 4) + v)) (e 4))) ((e 4) - (tk_mul (tk_div (e 4) ((e 4) + v)) (e 4)))) 0), .long ((tk_mv e ((e 0) + (tk_mul (tk_div (e 3) ((e 4) + v)) (z - (e 1)))) ((e 1) + (tk_mul (tk_div (e 4) ((e 4) + v)) (z - (e 1)))) ((e 2) - (tk_mul (tk_div (e 3) ((e 4) + v)) (e 3))) ((e 3) - (tk_mul (tk_div (e 3) ((e 4) + v)) (e 4))) ((e 4) - (tk_mul (tk_div (e 4) ((e 4) + v)) (e 4)))) 1), .long ((tk_mv e ((e 0) + (tk_mul (tk_div (e 3) ((e 4) + v)) (z - (e 1)))) ((e 1) + (tk_mul (tk_div (e 4) ((e 4) + v)) (z - (e 1)))) ((e 2) - (tk_mul (tk_div (e 3) ((e 4) + v)) (e 3))) ((e 3) - (tk_mul (tk_div (e 3) ((e 4) + v)) (e 4))) ((e 4) - (tk_mul (tk_div (e 4) ((e 4) + v)) (e 4)))) 2), .long ((tk_mv e ((e 0) + (tk_mul (tk_div (e 3) ((e 4) + v)) (z - (e 1)))) ((e 1) + (tk_mul (tk_div (e 4) ((e 4) + v)) (z - (e 1)))) ((e 2) - (tk_mul (tk_div (e 3) ((e 4) + v)) (e 3))) ((e 3) - (tk_mul (tk_div (e 3) ((e 4) + v)) (e 4))) ((e 4) - (tk_mul (tk_div (e 4) ((e 4) + v)) (e 4)))) 3), .long ((tk_mv e ((e 0) + (tk_mul (tk_div (e 3) ((e 4) + v)) (z - (e 1)))) ((e 1) + (tk_mul (tk_div (e 4) ((e 4) + v)) (z - (e 1)))) ((e 2) - (tk_mul (tk_div (e 3) ((e 4) + v)) (e 3))) ((e 3) - (tk_mul (tk_div (e 3) ((e 4) + v)) (e 4))) ((e 4) - (tk_mul (tk_div (e 4) ((e 4) + v)) (e 4)))) 4), .long (z - (e 1)), .long ((tk_mv e ((e 0) + (tk_mul (tk_div (e 3) ((e 4) + v)) (z - (e 1)))) ((e 1) + (tk_mul (tk_div (e 4) ((e 4) + v)) (z - (e 1)))) ((e 2) - (tk_mul (tk_div (e 3) ((e 4) + v)) (e 3))) ((e 3) - (tk_mul (tk_div (e 3) ((e 4) + v)) (e 4))) ((e 4) - (tk_mul (tk_div (e 4) ((e 4) + v)) (e 4)))) 6), .long ((tk_mv e ((e 0) + (tk_mul (tk_div (e 3) ((e 4) + v)) (z - (e 1)))) ((e 1) + (tk_mul (tk_div (e 4) ((e 4) + v)) (z - (e 1)))) ((e 2) - (tk_mul (tk_div (e 3) ((e 4) + v)) (e 3))) ((e 3) - (tk_mul (tk_div (e 3) ((e 4) + v)) (e 4))) ((e 4) - (tk_mul (tk_div (e 4) ((e 4) + v)) (e 4)))) 7)]))]) := hD
                        refine lv_aload_n hx hb dX0_take_227 rfl (lv_at hl 8 rfl) ?_
                        refine lv_lload hx hb dX0_take_228 (lv_at hl 2 rfl) ?_
                        refine va_put (D := D) (ci := 0) (v := .long (tk_div (e 3) ((e 4) + v))) (ty := .long) (C := RX0) (T := TX0) (N := 8) hx hb hts izX0_take_0 tyX0 tyX0_ok nmX0 hown hK hP hD hS 0 rfl rfl 6 (by decide) (hm 9 (.fieldLink RX0 34 "TankFilter$Estimate" "levelGain" "J") rfl) (fun _ h9 => h9) rfl (by decide +kernel) rfl rfl (Nat.le_of_ble_eq_true rfl) dX0_take_230 (fun H locs hP hD hS => ?_)
                        have hP : va_P D vwCl ([(h0, .inr (0, [.long ((tk_mv e ((e 0) + (tk_mul (tk_div (e 3) ((e 4) + v)) (z - (e 1)))) ((e 1) + (tk_mul (tk_div (e 4) ((e 4) + v)) (z - (e 1)))) ((e 2) - (tk_mul (tk_div (e 3) ((e 4) + v)) (e 3))) ((e 3) - (tk_mul (tk_div (e 3) ((e 4) + v)) (e 4))) ((e 4) - (tk_mul (tk_div (e 4) ((e 4) + v)) (e 4)))) 0), .long ((tk_mv e ((e 0) + (tk_mul (tk_div (e 3) ((e 4) + v)) (z - (e 1)))) ((e 1) + (tk_mul (tk_div (e 4) ((e 4) + v)) (z - (e 1)))) ((e 2) - (tk_mul (tk_div (e 3) ((e 4) + v)) (e 3))) ((e 3) - (tk_mul (tk_div (e 3) ((e 4) + v)) (e 4))) ((e 4) - (tk_mul (tk_div (e 4) ((e 4) + v)) (e 4)))) 1), .long ((tk_mv e ((e 0) + (tk_mul (tk_div (e 3) ((e 4) + v)) (z - (e 1)))) ((e 1) + (tk_mul (tk_div (e 4) ((e 4) + v)) (z - (e 1)))) ((e 2) - (tk_mul (tk_div (e 3) ((e 4) + v)) (e 3))) ((e 3) - (tk_mul (tk_div (e 3) ((e 4) + v)) (e 4))) ((e 4) - (tk_mul (tk_div (e 4) ((e 4) + v)) (e 4)))) 2), .long ((tk_mv e ((e 0) + (tk_mul (tk_div (e 3) ((e 4) + v)) (z - (e 1)))) ((e 1) + (tk_mul (tk_div (e 4) ((e 4) + v)) (z - (e 1)))) ((e 2) - (tk_mul (tk_div (e 3) ((e 4) + v)) (e 3))) ((e 3) - (tk_mul (tk_div (e 3) ((e 4) + v)) (e 4))) ((e 4) - (tk_mul (tk_div (e 4) ((e 4) + v)) (e 4)))) 3), .long ((tk_mv e ((e 0) + (tk_mul (tk_div (e 3) ((e 4) + v)) (z - (e 1)))) ((e 1) + (tk_mul (tk_div (e 4) ((e 4) + v)) (z - (e 1)))) ((e 2) - (tk_mul (tk_div (e 3) ((e 4) + v)) (e 3))) ((e 3) - (tk_mul (tk_div (e 3) ((e 4) + v)) (e 4))) ((e 4) - (tk_mul (tk_div (e 4) ((e 4) + v)) (e 4)))) 4), .long (z - (e 1)), .long (tk_div (e 3) ((e 4) + v)), .long ((tk_mv e ((e 0) + (tk_mul (tk_div (e 3) ((e 4) + v)) (z - (e 1)))) ((e 1) + (tk_mul (tk_div (e 4) ((e 4) + v)) (z - (e 1)))) ((e 2) - (tk_mul (tk_div (e 3) ((e 4) + v)) (e 3))) ((e 3) - (tk_mul (tk_div (e 3) ((e 4) + v)) (e 4))) ((e 4) - (tk_mul (tk_div (e 4) ((e 4) + v)) (e 4)))) 7)]))]) H := hP
                        have hD : va_D A ([(h0, .inr (0, [.long ((tk_mv e ((e 0) + (tk_mul (tk_div (e 3) ((e 4) + v)) (z - (e 1)))) ((e 1) + (tk_mul (tk_div (e 4) ((e 4) + v)) (z - (e 1)))) ((e 2) - (tk_mul (tk_div (e 3) ((e 4) + v)) (e 3))) ((e 3) - (tk_mul (tk_div (e 3) ((e 4) + v)) (e 4))) ((e 4) - (tk_mul (tk_div (e 4) ((e 4) + v)) (e 4)))) 0), .long ((tk_mv e ((e 0) + (tk_mul (tk_div (e 3) ((e 4) + v)) (z - (e 1)))) ((e 1) + (tk_mul (tk_div (e 4) ((e 4) + v)) (z - (e 1)))) ((e 2) - (tk_mul (tk_div (e 3) ((e 4) + v)) (e 3))) ((e 3) - (tk_mul (tk_div (e 3) ((e 4) + v)) (e 4))) ((e 4) - (tk_mul (tk_div (e 4) ((e 4) + v)) (e 4)))) 1), .long ((tk_mv e ((e 0) + (tk_mul (tk_div (e 3) ((e 4) + v)) (z - (e 1)))) ((e 1) + (tk_mul (tk_div (e 4) ((e 4) + v)) (z - (e 1)))) ((e 2) - (tk_mul (tk_div (e 3) ((e 4) + v)) (e 3))) ((e 3) - (tk_mul (tk_div (e 3) ((e 4) + v)) (e 4))) ((e 4) - (tk_mul (tk_div (e 4) ((e 4) + v)) (e 4)))) 2), .long ((tk_mv e ((e 0) + (tk_mul (tk_div (e 3) ((e 4) + v)) (z - (e 1)))) ((e 1) + (tk_mul (tk_div (e 4) ((e 4) + v)) (z - (e 1)))) ((e 2) - (tk_mul (tk_div (e 3) ((e 4) + v)) (e 3))) ((e 3) - (tk_mul (tk_div (e 3) ((e 4) + v)) (e 4))) ((e 4) - (tk_mul (tk_div (e 4) ((e 4) + v)) (e 4)))) 3), .long ((tk_mv e ((e 0) + (tk_mul (tk_div (e 3) ((e 4) + v)) (z - (e 1)))) ((e 1) + (tk_mul (tk_div (e 4) ((e 4) + v)) (z - (e 1)))) ((e 2) - (tk_mul (tk_div (e 3) ((e 4) + v)) (e 3))) ((e 3) - (tk_mul (tk_div (e 3) ((e 4) + v)) (e 4))) ((e 4) - (tk_mul (tk_div (e 4) ((e 4) + v)) (e 4)))) 4), .long (z - (e 1)), .long (tk_div (e 3) ((e 4) + v)), .long ((tk_mv e ((e 0) + (tk_mul (tk_div (e 3) ((e 4) + v)) (z - (e 1)))) ((e 1) + (tk_mul (tk_div (e 4) ((e 4) + v)) (z - (e 1)))) ((e 2) - (tk_mul (tk_div (e 3) ((e 4) + v)) (e 3))) ((e 3) - (tk_mul (tk_div (e 3) ((e 4) + v)) (e 4))) ((e 4) - (tk_mul (tk_div (e 4) ((e 4) + v)) (e 4)))) 7)]))]) := hD
                        refine lv_aload_n hx hb dX0_take_233 rfl (lv_at hl 8 rfl) ?_
                        refine lv_lload hx hb dX0_take_234 (lv_at hl 1 rfl) ?_
                        refine va_put (D := D) (ci := 0) (v := .long (tk_div (e 4) ((e 4) + v))) (ty := .long) (C := RX0) (T := TX0) (N := 8) hx hb hts izX0_take_0 tyX0 tyX0_ok nmX0 hown hK hP hD hS 0 rfl rfl 7 (by decide) (hm 10 (.fieldLink RX0 37 "TankFilter$Estimate" "flowGain" "J") rfl) (fun _ h9 => h9) rfl (by decide +kernel) rfl rfl (Nat.le_of_ble_eq_true rfl) dX0_take_236 (fun H locs hP hD hS => ?_)
                        have hP : va_P D vwCl ([(h0, .inr (0, [.long ((tk_mv e ((e 0) + (tk_mul (tk_div (e 3) ((e 4) + v)) (z - (e 1)))) ((e 1) + (tk_mul (tk_div (e 4) ((e 4) + v)) (z - (e 1)))) ((e 2) - (tk_mul (tk_div (e 3) ((e 4) + v)) (e 3))) ((e 3) - (tk_mul (tk_div (e 3) ((e 4) + v)) (e 4))) ((e 4) - (tk_mul (tk_div (e 4) ((e 4) + v)) (e 4)))) 0), .long ((tk_mv e ((e 0) + (tk_mul (tk_div (e 3) ((e 4) + v)) (z - (e 1)))) ((e 1) + (tk_mul (tk_div (e 4) ((e 4) + v)) (z - (e 1)))) ((e 2) - (tk_mul (tk_div (e 3) ((e 4) + v)) (e 3))) ((e 3) - (tk_mul (tk_div (e 3) ((e 4) + v)) (e 4))) ((e 4) - (tk_mul (tk_div (e 4) ((e 4) + v)) (e 4)))) 1), .long ((tk_mv e ((e 0) + (tk_mul (tk_div (e 3) ((e 4) + v)) (z - (e 1)))) ((e 1) + (tk_mul (tk_div (e 4) ((e 4) + v)) (z - (e 1)))) ((e 2) - (tk_mul (tk_div (e 3) ((e 4) + v)) (e 3))) ((e 3) - (tk_mul (tk_div (e 3) ((e 4) + v)) (e 4))) ((e 4) - (tk_mul (tk_div (e 4) ((e 4) + v)) (e 4)))) 2), .long ((tk_mv e ((e 0) + (tk_mul (tk_div (e 3) ((e 4) + v)) (z - (e 1)))) ((e 1) + (tk_mul (tk_div (e 4) ((e 4) + v)) (z - (e 1)))) ((e 2) - (tk_mul (tk_div (e 3) ((e 4) + v)) (e 3))) ((e 3) - (tk_mul (tk_div (e 3) ((e 4) + v)) (e 4))) ((e 4) - (tk_mul (tk_div (e 4) ((e 4) + v)) (e 4)))) 3), .long ((tk_mv e ((e 0) + (tk_mul (tk_div (e 3) ((e 4) + v)) (z - (e 1)))) ((e 1) + (tk_mul (tk_div (e 4) ((e 4) + v)) (z - (e 1)))) ((e 2) - (tk_mul (tk_div (e 3) ((e 4) + v)) (e 3))) ((e 3) - (tk_mul (tk_div (e 3) ((e 4) + v)) (e 4))) ((e 4) - (tk_mul (tk_div (e 4) ((e 4) + v)) (e 4)))) 4), .long (z - (e 1)), .long (tk_div (e 3) ((e 4) + v)), .long (tk_div (e 4) ((e 4) + v))]))]) H := hP
                        have hD : va_D A ([(h0, .inr (0, [.long ((tk_mv e ((e 0) + (tk_mul (tk_div (e 3) ((e 4) + v)) (z - (e 1)))) ((e 1) + (tk_mul (tk_div (e 4) ((e 4) + v)) (z - (e 1)))) ((e 2) - (tk_mul (tk_div (e 3) ((e 4) + v)) (e 3))) ((e 3) - (tk_mul (tk_div (e 3) ((e 4) + v)) (e 4))) ((e 4) - (tk_mul (tk_div (e 4) ((e 4) + v)) (e 4)))) 0), .long ((tk_mv e ((e 0) + (tk_mul (tk_div (e 3) ((e 4) + v)) (z - (e 1)))) ((e 1) + (tk_mul (tk_div (e 4) ((e 4) + v)) (z - (e 1)))) ((e 2) - (tk_mul (tk_div (e 3) ((e 4) + v)) (e 3))) ((e 3) - (tk_mul (tk_div (e 3) ((e 4) + v)) (e 4))) ((e 4) - (tk_mul (tk_div (e 4) ((e 4) + v)) (e 4)))) 1), .long ((tk_mv e ((e 0) + (tk_mul (tk_div (e 3) ((e 4) + v)) (z - (e 1)))) ((e 1) + (tk_mul (tk_div (e 4) ((e 4) + v)) (z - (e 1)))) ((e 2) - (tk_mul (tk_div (e 3) ((e 4) + v)) (e 3))) ((e 3) - (tk_mul (tk_div (e 3) ((e 4) + v)) (e 4))) ((e 4) - (tk_mul (tk_div (e 4) ((e 4) + v)) (e 4)))) 2), .long ((tk_mv e ((e 0) + (tk_mul (tk_div (e 3) ((e 4) + v)) (z - (e 1)))) ((e 1) + (tk_mul (tk_div (e 4) ((e 4) + v)) (z - (e 1)))) ((e 2) - (tk_mul (tk_div (e 3) ((e 4) + v)) (e 3))) ((e 3) - (tk_mul (tk_div (e 3) ((e 4) + v)) (e 4))) ((e 4) - (tk_mul (tk_div (e 4) ((e 4) + v)) (e 4)))) 3), .long ((tk_mv e ((e 0) + (tk_mul (tk_div (e 3) ((e 4) + v)) (z - (e 1)))) ((e 1) + (tk_mul (tk_div (e 4) ((e 4) + v)) (z - (e 1)))) ((e 2) - (tk_mul (tk_div (e 3) ((e 4) + v)) (e 3))) ((e 3) - (tk_mul (tk_div (e 3) ((e 4) + v)) (e 4))) ((e 4) - (tk_mul (tk_div (e 4) ((e 4) + v)) (e 4)))) 4), .long (z - (e 1)), .long (tk_div (e 3) ((e 4) + v)), .long (tk_div (e 4) ((e 4) + v))]))]) := hD
                        refine lv_iconst (v := 1) hx hb dX0_take_239 (by decide) ?_
                        exact W.iret (v := 1) hx hb hr (fun t ht hW => ⟨⟨1, cq_e e (e 3) (e 4) (e 4) (e 1) z v, rfl, Or.inr (Or.inl ⟨(fun y => cq_rej_1 c_6 ((co_rej1 c_1).mp y)), by rw [co_ok1 c_1, cq_ok, p_9, p_11, p_18]; rfl, rfl, (co_e1 c_1).symm⟩), KB.of hAe (by rw [ht]; exact hP) hD⟩, hS.F ht⟩) hS.2.2 dX0_take_240
                      · exact absurd c_19 (by decide)
                    · have hP : va_P D vwCl ([(h0, .inr (0, tk_ev e))]) H := hP
                      have hD : va_D A ([(h0, .inr (0, tk_ev e))]) := hD
                      refine lv_istore (lv' := [(21, .int 0), (19, .long (tk_div (e 4) ((e 4) + v))), (17, .long (tk_div (e 3) ((e 4) + v))), (15, .long ((e 4) + v)), (13, .long (z - (e 1))), (11, .long (e 4)), (9, .long (e 3)), (8, .int 0), (0, .ref h0), (1, .long z), (3, .int kd), (4, .long v), (6, .long g)]) hx hb dX0_take_211 hl (by decide) rfl (fun ls hl => ?_)
                      refine lv_iload hx hb dX0_take_213 (lv_at hl 0 rfl) ?_
                      refine lv_if_ne (tgt := 221) hx hb dX0_take_215 (by decide) (fun c_20 => ?_) (fun c_20 => ?_)
                      · exact absurd c_20 (by decide)
                      · skip
                        refine lv_ldc (v := -2000000004) hx hb hown (hm 6 (.constant RX0 58 (-2000000004)) rfl) dX0_take_218 ?_
                        exact W.iret (v := (-2000000004)) hx hb hr (fun t ht hW => ⟨⟨(-2000000004), e, rfl, Or.inr (Or.inr ⟨(fun y => cq_rej_1 c_6 ((co_rej1 c_1).mp y)), by rw [co_ok1 c_1, cq_ok, p_9, p_11, p_18]; rfl, rfl, rfl⟩), KB.of hAe (by rw [ht]; exact hP) hD⟩, hS.F ht⟩) hS.2.2 dX0_take_220
                  · exact absurd c_12 (by decide)
                · have hP : va_P D vwCl ([(h0, .inr (0, tk_ev e))]) H := hP
                  have hD : va_D A ([(h0, .inr (0, tk_ev e))]) := hD
                  refine lv_if_ne (tgt := 147) hx hb dX0_take_141 (by decide) (fun c_21 => ?_) (fun c_21 => ?_)
                  · exact absurd c_21 (by decide)
                  · skip
                    refine lv_ldc (v := -2000000004) hx hb hown (hm 6 (.constant RX0 58 (-2000000004)) rfl) dX0_take_144 ?_
                    exact W.iret (v := (-2000000004)) hx hb hr (fun t ht hW => ⟨⟨(-2000000004), e, rfl, Or.inr (Or.inr ⟨(fun y => cq_rej_1 c_6 ((co_rej1 c_1).mp y)), by rw [co_ok1 c_1, cq_ok, p_9, p_11]; rfl, rfl, rfl⟩), KB.of hAe (by rw [ht]; exact hP) hD⟩, hS.F ht⟩) hS.2.2 dX0_take_146
            · have hP : va_P D vwCl ([(h0, .inr (0, tk_ev e))]) H := hP
              have hD : va_D A ([(h0, .inr (0, tk_ev e))]) := hD
              refine lv_if_eq (tgt := 144) hx hb dX0_take_133 (by decide) (fun c_22 => ?_) (fun c_22 => ?_)
              · skip
                refine lv_ldc (v := -2000000004) hx hb hown (hm 6 (.constant RX0 58 (-2000000004)) rfl) dX0_take_144 ?_
                exact W.iret (v := (-2000000004)) hx hb hr (fun t ht hW => ⟨⟨(-2000000004), e, rfl, Or.inr (Or.inr ⟨(fun y => cq_rej_1 c_6 ((co_rej1 c_1).mp y)), by rw [co_ok1 c_1, cq_ok, p_9]; rfl, rfl, rfl⟩), KB.of hAe (by rw [ht]; exact hP) hD⟩, hS.F ht⟩) hS.2.2 dX0_take_146
              · exact absurd c_22 (by decide)
          · have c_6 := mt (lg_cmp_eq _ _).mpr c_6
            refine lv_lload hx hb dX0_take_84 (lv_at hl 1 rfl) ?_
            refine lv_lload hx hb dX0_take_86 (lv_at hl 1 rfl) ?_
            refine lv_lmul hx hb dX0_take_88 ?_
            refine lv_lload hx hb dX0_take_89 (lv_at hl 9 rfl) ?_
            refine lv_lload hx hb dX0_take_91 (lv_at hl 0 rfl) ?_
            refine lv_lmul hx hb dX0_take_93 ?_
            refine lv_ldc2 (v := 4096) hx hb hown (hm 4 (.constantLong RX0 18 (4096)) rfl) dX0_take_94 ?_
            refine lv_lmul hx hb dX0_take_97 ?_
            refine W.lcmp hx hb dX0_take_98 ?_
            refine lv_if_le (tgt := 110) hx hb dX0_take_99 (by decide) (fun c_23 => ?_) (fun c_23 => ?_)
            · have c_23 := (lg_cmp_le _ _).mp c_23
              refine lv_lload hx hb dX0_take_110 (lv_at hl 3 rfl) ?_
              refine lv_lload hx hb dX0_take_112 (lv_at hl 0 rfl) ?_
              refine kc_l (wc := []) (wr := [(h0, .inr (0, tk_ev e))]) (va_runSN (As := [.long (e 3), .long ((e 4) + v)]) (rest := []) ⟨hx, hb, hml, hown, hts⟩ (k_X3_dividedBy l D cI cM cJ H.size (e 3) ((e 4) + v) ((co_p1 c_1) ▸ hs)) ⟨va_cnB 2 hts gX0_take_X3_dividedBy_n50 rfl rfl rfl (hN.at 37 rfl) (hm 17 (.initialized RX3) rfl) (by decide +kernel) ⟨Nat.le_of_ble_eq_true rfl, Nat.le_of_ble_eq_true rfl⟩, (hm 16 (.static yX3_dividedBy) rfl), trivial⟩ (kp_preS hN hK hP hD) rfl rfl hl.1 rfl (lv_room (Nat.le_of_ble_eq_true rfl)) dX0_take_114 ⟨Nat.le_of_ble_eq_true rfl, Nat.le_of_ble_eq_true rfl⟩) hP hD hS hA (fun r_24 u_24 H locs p_24 hP hD hS => ?_)
              obtain rfl : r_24 = tk_div (e 3) ((e 4) + v) := p_24
              have hP : va_P D vwCl ([(h0, .inr (0, tk_ev e))]) H := hP
              have hD : va_D A ([(h0, .inr (0, tk_ev e))]) := hD
              refine lv_lstore (lv' := [(17, .long (tk_div (e 3) ((e 4) + v))), (15, .long ((e 4) + v)), (13, .long (z - (e 1))), (11, .long (e 4)), (9, .long (e 3)), (8, .int 0), (0, .ref h0), (1, .long z), (3, .int kd), (4, .long v), (6, .long g)]) hx hb dX0_take_117 hl (by decide) rfl (fun ls hl => ?_)
              refine lv_lload hx hb dX0_take_119 (lv_at hl 3 rfl) ?_
              refine lv_lload hx hb dX0_take_121 (lv_at hl 1 rfl) ?_
              refine kc_l (wc := []) (wr := [(h0, .inr (0, tk_ev e))]) (va_runSN (As := [.long (e 4), .long ((e 4) + v)]) (rest := []) ⟨hx, hb, hml, hown, hts⟩ (k_X3_dividedBy l D cI cM cJ H.size (e 4) ((e 4) + v) ((co_p1 c_1) ▸ hs)) ⟨va_cnB 2 hts gX0_take_X3_dividedBy_n50 rfl rfl rfl (hN.at 37 rfl) (hm 17 (.initialized RX3) rfl) (by decide +kernel) ⟨Nat.le_of_ble_eq_true rfl, Nat.le_of_ble_eq_true rfl⟩, (hm 16 (.static yX3_dividedBy) rfl), trivial⟩ (kp_preS hN hK hP hD) rfl rfl hl.1 rfl (lv_room (Nat.le_of_ble_eq_true rfl)) dX0_take_123 ⟨Nat.le_of_ble_eq_true rfl, Nat.le_of_ble_eq_true rfl⟩) hP hD hS hA (fun r_25 u_25 H locs p_25 hP hD hS => ?_)
              obtain rfl : r_25 = tk_div (e 4) ((e 4) + v) := p_25
              have hP : va_P D vwCl ([(h0, .inr (0, tk_ev e))]) H := hP
              have hD : va_D A ([(h0, .inr (0, tk_ev e))]) := hD
              refine lv_lstore (lv' := [(19, .long (tk_div (e 4) ((e 4) + v))), (17, .long (tk_div (e 3) ((e 4) + v))), (15, .long ((e 4) + v)), (13, .long (z - (e 1))), (11, .long (e 4)), (9, .long (e 3)), (8, .int 0), (0, .ref h0), (1, .long z), (3, .int kd), (4, .long v), (6, .long g)]) hx hb dX0_take_126 hl (by decide) rfl (fun ls hl => ?_)
              refine lv_lload hx hb dX0_take_128 (lv_at hl 1 rfl) ?_
              refine kc_i (wc := []) (wr := [(h0, .inr (0, tk_ev e))]) (va_runSN (As := [.long (tk_div (e 3) ((e 4) + v))]) (rest := []) ⟨hx, hb, hml, hown, hts⟩ (k_X3_isInLimit l D cI cM cJ H.size (tk_div (e 3) ((e 4) + v))) ⟨va_cnB 1 hts gX0_take_X3_isInLimit_n54 rfl rfl rfl (hN.at 34 rfl) (hm 17 (.initialized RX3) rfl) (by decide +kernel) ⟨Nat.le_of_ble_eq_true rfl, Nat.le_of_ble_eq_true rfl⟩, (hm 25 (.static yX3_isInLimit) rfl), trivial⟩ (kp_preS hN hK hP hD) rfl rfl hl.1 rfl (lv_room (Nat.le_of_ble_eq_true rfl)) dX0_take_130 ⟨Nat.le_of_ble_eq_true rfl, Nat.le_of_ble_eq_true rfl⟩) hP hD hS hA (fun r_26 u_26 H locs p_26 hP hD hS => ?_)
              rcases p_26 with ⟨p_26, rfl⟩ | ⟨p_26, rfl⟩
              · have hP : va_P D vwCl ([(h0, .inr (0, tk_ev e))]) H := hP
                have hD : va_D A ([(h0, .inr (0, tk_ev e))]) := hD
                refine lv_if_eq (tgt := 144) hx hb dX0_take_133 (by decide) (fun c_27 => ?_) (fun c_27 => ?_)
                · exact absurd c_27 (by decide)
                · skip
                  refine lv_lload hx hb dX0_take_136 (lv_at hl 0 rfl) ?_
                  refine kc_i (wc := []) (wr := [(h0, .inr (0, tk_ev e))]) (va_runSN (As := [.long (tk_div (e 4) ((e 4) + v))]) (rest := []) ⟨hx, hb, hml, hown, hts⟩ (k_X3_isInLimit l D cI cM cJ H.size (tk_div (e 4) ((e 4) + v))) ⟨va_cnB 1 hts gX0_take_X3_isInLimit_n54 rfl rfl rfl (hN.at 34 rfl) (hm 17 (.initialized RX3) rfl) (by decide +kernel) ⟨Nat.le_of_ble_eq_true rfl, Nat.le_of_ble_eq_true rfl⟩, (hm 25 (.static yX3_isInLimit) rfl), trivial⟩ (kp_preS hN hK hP hD) rfl rfl hl.1 rfl (lv_room (Nat.le_of_ble_eq_true rfl)) dX0_take_138 ⟨Nat.le_of_ble_eq_true rfl, Nat.le_of_ble_eq_true rfl⟩) hP hD hS hA (fun r_28 u_28 H locs p_28 hP hD hS => ?_)
                  rcases p_28 with ⟨p_28, rfl⟩ | ⟨p_28, rfl⟩
                  · have hP : va_P D vwCl ([(h0, .inr (0, tk_ev e))]) H := hP
                    have hD : va_D A ([(h0, .inr (0, tk_ev e))]) := hD
                    refine lv_if_ne (tgt := 147) hx hb dX0_take_141 (by decide) (fun c_29 => ?_) (fun c_29 => ?_)
                    · skip
                      refine lv_aload_n hx hb dX0_take_147 rfl (lv_at hl 7 rfl) ?_
                      refine lv_aload_n hx hb dX0_take_148 rfl (lv_at hl 7 rfl) ?_
                      refine va_get (D := D) (ci := 0) (v := .long (e 0)) (C := RX0) (T := TX0) (N := 8) hx hb hts izX0_take_0 hown hK hP 0 rfl rfl 0 (by decide) (hm 7 (.fieldLink RX0 9 "TankFilter$Estimate" "level" "J") rfl) (fun _ h9 => h9) rfl dX0_take_149 ?_
                      refine lv_lload hx hb dX0_take_152 (lv_at hl 1 rfl) ?_
                      refine lv_lload hx hb dX0_take_154 (lv_at hl 3 rfl) ?_
                      refine kc_l (wc := []) (wr := [(h0, .inr (0, tk_ev e))]) (va_runSN (As := [.long (tk_div (e 3) ((e 4) + v)), .long (z - (e 1))]) (rest := [.long (e 0), .ref h0]) ⟨hx, hb, hml, hown, hts⟩ (k_X3_times l D cI cM cJ H.size (tk_div (e 3) ((e 4) + v)) (z - (e 1))) ⟨va_cnB 2 hts gX0_take_X3_times_n59 rfl rfl rfl (hN.at 38 rfl) (hm 17 (.initialized RX3) rfl) (by decide +kernel) ⟨Nat.le_of_ble_eq_true rfl, Nat.le_of_ble_eq_true rfl⟩, (hm 29 (.static yX3_times) rfl), trivial⟩ (kp_preS hN hK hP hD) rfl rfl hl.1 rfl (lv_room (Nat.le_of_ble_eq_true rfl)) dX0_take_156 ⟨Nat.le_of_ble_eq_true rfl, Nat.le_of_ble_eq_true rfl⟩) hP hD hS hA (fun r_30 u_30 H locs p_30 hP hD hS => ?_)
                      obtain rfl : r_30 = tk_mul (tk_div (e 3) ((e 4) + v)) (z - (e 1)) := p_30
                      have hP : va_P D vwCl ([(h0, .inr (0, tk_ev e))]) H := hP
                      have hD : va_D A ([(h0, .inr (0, tk_ev e))]) := hD
                      refine lv_ladd hx hb dX0_take_159 ?_
                      refine lv_aload_n hx hb dX0_take_160 rfl (lv_at hl 7 rfl) ?_
                      refine va_get (D := D) (ci := 0) (v := .long (e 1)) (C := RX0) (T := TX0) (N := 8) hx hb hts izX0_take_0 hown hK hP 0 rfl rfl 1 (by decide) (hm 8 (.fieldLink RX0 15 "TankFilter$Estimate" "flow" "J") rfl) (fun _ h9 => h9) rfl dX0_take_161 ?_
                      refine lv_lload hx hb dX0_take_164 (lv_at hl 0 rfl) ?_
                      refine lv_lload hx hb dX0_take_166 (lv_at hl 3 rfl) ?_
                      refine kc_l (wc := []) (wr := [(h0, .inr (0, tk_ev e))]) (va_runSN (As := [.long (tk_div (e 4) ((e 4) + v)), .long (z - (e 1))]) (rest := [.long (e 1), .long ((e 0) + (tk_mul (tk_div (e 3) ((e 4) + v)) (z - (e 1)))), .ref h0]) ⟨hx, hb, hml, hown, hts⟩ (k_X3_times l D cI cM cJ H.size (tk_div (e 4) ((e 4) + v)) (z - (e 1))) ⟨va_cnB 2 hts gX0_take_X3_times_n59 rfl rfl rfl (hN.at 38 rfl) (hm 17 (.initialized RX3) rfl) (by decide +kernel) ⟨Nat.le_of_ble_eq_true rfl, Nat.le_of_ble_eq_true rfl⟩, (hm 29 (.static yX3_times) rfl), trivial⟩ (kp_preS hN hK hP hD) rfl rfl hl.1 rfl (lv_room (Nat.le_of_ble_eq_true rfl)) dX0_take_168 ⟨Nat.le_of_ble_eq_true rfl, Nat.le_of_ble_eq_true rfl⟩) hP hD hS hA (fun r_31 u_31 H locs p_31 hP hD hS => ?_)
                      obtain rfl : r_31 = tk_mul (tk_div (e 4) ((e 4) + v)) (z - (e 1)) := p_31
                      have hP : va_P D vwCl ([(h0, .inr (0, tk_ev e))]) H := hP
                      have hD : va_D A ([(h0, .inr (0, tk_ev e))]) := hD
                      refine lv_ladd hx hb dX0_take_171 ?_
                      refine lv_aload_n hx hb dX0_take_172 rfl (lv_at hl 7 rfl) ?_
                      refine va_get (D := D) (ci := 0) (v := .long (e 2)) (C := RX0) (T := TX0) (N := 8) hx hb hts izX0_take_0 hown hK hP 0 rfl rfl 2 (by decide) (hm 1 (.fieldLink RX0 20 "TankFilter$Estimate" "levelVariance" "J") rfl) (fun _ h9 => h9) rfl dX0_take_173 ?_
                      refine lv_lload hx hb dX0_take_176 (lv_at hl 1 rfl) ?_
                      refine lv_lload hx hb dX0_take_178 (lv_at hl 5 rfl) ?_
                      refine kc_l (wc := []) (wr := [(h0, .inr (0, tk_ev e))]) (va_runSN (As := [.long (tk_div (e 3) ((e 4) + v)), .long (e 3)]) (rest := [.long (e 2), .long ((e 1) + (tk_mul (tk_div (e 4) ((e 4) + v)) (z - (e 1)))), .long ((e 0) + (tk_mul (tk_div (e 3) ((e 4) + v)) (z - (e 1)))), .ref h0]) ⟨hx, hb, hml, hown, hts⟩ (k_X3_times l D cI cM cJ H.size (tk_div (e 3) ((e 4) + v)) (e 3)) ⟨va_cnB 2 hts gX0_take_X3_times_n59 rfl rfl rfl (hN.at 38 rfl) (hm 17 (.initialized RX3) rfl) (by decide +kernel) ⟨Nat.le_of_ble_eq_true rfl, Nat.le_of_ble_eq_true rfl⟩, (hm 29 (.static yX3_times) rfl), trivial⟩ (kp_preS hN hK hP hD) rfl rfl hl.1 rfl (lv_room (Nat.le_of_ble_eq_true rfl)) dX0_take_180 ⟨Nat.le_of_ble_eq_true rfl, Nat.le_of_ble_eq_true rfl⟩) hP hD hS hA (fun r_32 u_32 H locs p_32 hP hD hS => ?_)
                      obtain rfl : r_32 = tk_mul (tk_div (e 3) ((e 4) + v)) (e 3) := p_32
                      have hP : va_P D vwCl ([(h0, .inr (0, tk_ev e))]) H := hP
                      have hD : va_D A ([(h0, .inr (0, tk_ev e))]) := hD
                      refine lv_lsub hx hb dX0_take_183 ?_
                      refine lv_aload_n hx hb dX0_take_184 rfl (lv_at hl 7 rfl) ?_
                      refine va_get (D := D) (ci := 0) (v := .long (e 3)) (C := RX0) (T := TX0) (N := 8) hx hb hts izX0_take_0 hown hK hP 0 rfl rfl 3 (by decide) (hm 2 (.fieldLink RX0 23 "TankFilter$Estimate" "covariance" "J") rfl) (fun _ h9 => h9) rfl dX0_take_185 ?_
                      refine lv_lload hx hb dX0_take_188 (lv_at hl 1 rfl) ?_
                      refine lv_lload hx hb dX0_take_190 (lv_at hl 4 rfl) ?_
                      refine kc_l (wc := []) (wr := [(h0, .inr (0, tk_ev e))]) (kw_runSN 16 2 (As := [.long (tk_div (e 3) ((e 4) + v)), .long (e 4)]) (rest := [.long (e 3), .long ((e 2) - (tk_mul (tk_div (e 3) ((e 4) + v)) (e 3))), .long ((e 1) + (tk_mul (tk_div (e 4) ((e 4) + v)) (z - (e 1)))), .long ((e 0) + (tk_mul (tk_div (e 3) ((e 4) + v)) (z - (e 1)))), .ref h0]) ⟨hx, hb, hml, hown, hts⟩ (k_X3_times l D cI cM cJ H.size (tk_div (e 3) ((e 4) + v)) (e 4)) gX0_take_X3_times_n59 rfl rfl rfl (hN.at 38 rfl) (hm 17 (.initialized RX3) rfl) (hm 29 (.static yX3_times) rfl) (by decide +kernel) ⟨Nat.le_of_ble_eq_true rfl, Nat.le_of_ble_eq_true rfl⟩ (kp_preS hN hK hP hD) rfl rfl hl.1 rfl (kw_room (Nat.le_of_ble_eq_true rfl)) dX0_take_192 ⟨Nat.le_of_ble_eq_true rfl, Nat.le_of_ble_eq_true rfl⟩) hP hD hS hA (fun r_33 u_33 H locs p_33 hP hD hS => ?_)
                      obtain rfl : r_33 = tk_mul (tk_div (e 3) ((e 4) + v)) (e 4) := p_33
                      have hP : va_P D vwCl ([(h0, .inr (0, tk_ev e))]) H := hP
                      have hD : va_D A ([(h0, .inr (0, tk_ev e))]) := hD
                      refine lv_lsub hx hb dX0_take_195 ?_
                      refine lv_aload_n hx hb dX0_take_196 rfl (lv_at hl 7 rfl) ?_
                      refine va_get (D := D) (ci := 0) (v := .long (e 4)) (C := RX0) (T := TX0) (N := 8) hx hb hts izX0_take_0 hown hK hP 0 rfl rfl 4 (by decide) (hm 3 (.fieldLink RX0 26 "TankFilter$Estimate" "flowVariance" "J") rfl) (fun _ h9 => h9) rfl dX0_take_197 ?_
                      refine lv_lload hx hb dX0_take_200 (lv_at hl 0 rfl) ?_
                      refine lv_lload hx hb dX0_take_202 (lv_at hl 4 rfl) ?_
                      refine kc_l (wc := []) (wr := [(h0, .inr (0, tk_ev e))]) (kw_runSN 16 2 (As := [.long (tk_div (e 4) ((e 4) + v)), .long (e 4)]) (rest := [.long (e 4), .long ((e 3) - (tk_mul (tk_div (e 3) ((e 4) + v)) (e 4))), .long ((e 2) - (tk_mul (tk_div (e 3) ((e 4) + v)) (e 3))), .long ((e 1) + (tk_mul (tk_div (e 4) ((e 4) + v)) (z - (e 1)))), .long ((e 0) + (tk_mul (tk_div (e 3) ((e 4) + v)) (z - (e 1)))), .ref h0]) ⟨hx, hb, hml, hown, hts⟩ (k_X3_times l D cI cM cJ H.size (tk_div (e 4) ((e 4) + v)) (e 4)) gX0_take_X3_times_n59 rfl rfl rfl (hN.at 38 rfl) (hm 17 (.initialized RX3) rfl) (hm 29 (.static yX3_times) rfl) (by decide +kernel) ⟨Nat.le_of_ble_eq_true rfl, Nat.le_of_ble_eq_true rfl⟩ (kp_preS hN hK hP hD) rfl rfl hl.1 rfl (kw_room (Nat.le_of_ble_eq_true rfl)) dX0_take_204 ⟨Nat.le_of_ble_eq_true rfl, Nat.le_of_ble_eq_true rfl⟩) hP hD hS hA (fun r_34 u_34 H locs p_34 hP hD hS => ?_)
                      obtain rfl : r_34 = tk_mul (tk_div (e 4) ((e 4) + v)) (e 4) := p_34
                      have hP : va_P D vwCl ([(h0, .inr (0, tk_ev e))]) H := hP
                      have hD : va_D A ([(h0, .inr (0, tk_ev e))]) := hD
                      refine lv_lsub hx hb dX0_take_207 ?_
                      refine kc_i (wc := [(h0, .inr (0, tk_ev e))]) (wr := []) (va_runV (As := [.long ((e 0) + (tk_mul (tk_div (e 3) ((e 4) + v)) (z - (e 1)))), .long ((e 1) + (tk_mul (tk_div (e 4) ((e 4) + v)) (z - (e 1)))), .long ((e 2) - (tk_mul (tk_div (e 3) ((e 4) + v)) (e 3))), .long ((e 3) - (tk_mul (tk_div (e 3) ((e 4) + v)) (e 4))), .long ((e 4) - (tk_mul (tk_div (e 4) ((e 4) + v)) (e 4)))]) (rest := []) ⟨hx, hb, hml, hown, hts⟩ (k_X0_move l D cI cM cJ H.size h0 e ((e 0) + (tk_mul (tk_div (e 3) ((e 4) + v)) (z - (e 1)))) ((e 1) + (tk_mul (tk_div (e 4) ((e 4) + v)) (z - (e 1)))) ((e 2) - (tk_mul (tk_div (e 3) ((e 4) + v)) (e 3))) ((e 3) - (tk_mul (tk_div (e 3) ((e 4) + v)) (e 4))) ((e 4) - (tk_mul (tk_div (e 4) ((e 4) + v)) (e 4)))) (cwV 5 hts gX0_take_X0_move rfl rfl rfl (by decide +kernel) ⟨Nat.le_of_ble_eq_true rfl, Nat.le_of_ble_eq_true rfl⟩) (kp_preV (q := (RX0, TX0, 8)) hN hK hP hD 0 rfl rfl) rfl rfl hl.1 rfl (lv_room (Nat.le_of_ble_eq_true rfl)) dX0_take_208 ⟨Nat.le_of_ble_eq_true rfl, Nat.le_of_ble_eq_true rfl⟩) hP hD hS hA (fun r_35 u_35 H locs p_35 hP hD hS => ?_)
                      rcases p_35 with ⟨p_35, rfl, rfl⟩ | ⟨p_35, rfl, rfl⟩
                      · have hP : va_P D vwCl ([(h0, .inr (0, tk_ev (tk_mv e ((e 0) + (tk_mul (tk_div (e 3) ((e 4) + v)) (z - (e 1)))) ((e 1) + (tk_mul (tk_div (e 4) ((e 4) + v)) (z - (e 1)))) ((e 2) - (tk_mul (tk_div (e 3) ((e 4) + v)) (e 3))) ((e 3) - (tk_mul (tk_div (e 3) ((e 4) + v)) (e 4))) ((e 4) - (tk_mul (tk_div (e 4) ((e 4) + v)) (e 4))))))]) H := hP
                        have hD : va_D A ([(h0, .inr (0, tk_ev (tk_mv e ((e 0) + (tk_mul (tk_div (e 3) ((e 4) + v)) (z - (e 1)))) ((e 1) + (tk_mul (tk_div (e 4) ((e 4) + v)) (z - (e 1)))) ((e 2) - (tk_mul (tk_div (e 3) ((e 4) + v)) (e 3))) ((e 3) - (tk_mul (tk_div (e 3) ((e 4) + v)) (e 4))) ((e 4) - (tk_mul (tk_div (e 4) ((e 4) + v)) (e 4))))))]) := hD
                        refine lv_istore (lv' := [(21, .int 1), (19, .long (tk_div (e 4) ((e 4) + v))), (17, .long (tk_div (e 3) ((e 4) + v))), (15, .long ((e 4) + v)), (13, .long (z - (e 1))), (11, .long (e 4)), (9, .long (e 3)), (8, .int 0), (0, .ref h0), (1, .long z), (3, .int kd), (4, .long v), (6, .long g)]) hx hb dX0_take_211 hl (by decide) rfl (fun ls hl => ?_)
                        refine lv_iload hx hb dX0_take_213 (lv_at hl 0 rfl) ?_
                        refine lv_if_ne (tgt := 221) hx hb dX0_take_215 (by decide) (fun c_36 => ?_) (fun c_36 => ?_)
                        · skip
                          refine lv_aload_n hx hb dX0_take_221 rfl (lv_at hl 8 rfl) ?_
                          refine lv_lload hx hb dX0_take_222 (lv_at hl 4 rfl) ?_
                          refine va_put (D := D) (ci := 0) (v := .long (z - (e 1))) (ty := .long) (C := RX0) (T := TX0) (N := 8) hx hb hts izX0_take_0 tyX0 tyX0_ok nmX0 hown hK hP hD hS 0 rfl rfl 5 (by decide) (hm 5 (.fieldLink RX0 31 "TankFilter$Estimate" "innovation" "J") rfl) (fun _ h9 => h9) rfl (by decide +kernel) rfl rfl (Nat.le_of_ble_eq_true rfl) dX0_take_224 (fun H locs hP hD hS => ?_)
                          have hP : va_P D vwCl ([(h0, .inr (0, [.long ((tk_mv e ((e 0) + (tk_mul (tk_div (e 3) ((e 4) + v)) (z - (e 1)))) ((e 1) + (tk_mul (tk_div (e 4) ((e 4) + v)) (z - (e 1)))) ((e 2) - (tk_mul (tk_div (e 3) ((e 4) + v)) (e 3))) ((e 3) - (tk_mul (tk_div (e 3) ((e 4) + v)) (e 4))) ((e 4) - (tk_mul (tk_div (e 4) ((e 4) + v)) (e 4)))) 0), .long ((tk_mv e ((e 0) + (tk_mul (tk_div (e 3) ((e 4) + v)) (z - (e 1)))) ((e 1) + (tk_mul (tk_div (e 4) ((e 4) + v)) (z - (e 1)))) ((e 2) - (tk_mul (tk_div (e 3) ((e 4) + v)) (e 3))) ((e 3) - (tk_mul (tk_div (e 3) ((e 4) + v)) (e 4))) ((e 4) - (tk_mul (tk_div (e 4) ((e 4) + v)) (e 4)))) 1), .long ((tk_mv e ((e 0) + (tk_mul (tk_div (e 3) ((e 4) + v)) (z - (e 1)))) ((e 1) + (tk_mul (tk_div (e 4) ((e 4) + v)) (z - (e 1)))) ((e 2) - (tk_mul (tk_div (e 3) ((e 4) + v)) (e 3))) ((e 3) - (tk_mul (tk_div (e 3) ((e 4) + v)) (e 4))) ((e 4) - (tk_mul (tk_div (e 4) ((e 4) + v)) (e 4)))) 2), .long ((tk_mv e ((e 0) + (tk_mul (tk_div (e 3) ((e 4) + v)) (z - (e 1)))) ((e 1) + (tk_mul (tk_div (e 4) ((e 4) + v)) (z - (e 1)))) ((e 2) - (tk_mul (tk_div (e 3) ((e 4) + v)) (e 3))) ((e 3) - (tk_mul (tk_div (e 3) ((e 4) + v)) (e 4))) ((e 4) - (tk_mul (tk_div (e 4) ((e 4) + v)) (e 4)))) 3), .long ((tk_mv e ((e 0) + (tk_mul (tk_div (e 3) ((e 4) + v)) (z - (e 1)))) ((e 1) + (tk_mul (tk_div (e 4) ((e 4) + v)) (z - (e 1)))) ((e 2) - (tk_mul (tk_div (e 3) ((e 4) + v)) (e 3))) ((e 3) - (tk_mul (tk_div (e 3) ((e 4) + v)) (e 4))) ((e 4) - (tk_mul (tk_div (e 4) ((e 4) + v)) (e 4)))) 4), .long (z - (e 1)), .long ((tk_mv e ((e 0) + (tk_mul (tk_div (e 3) ((e 4) + v)) (z - (e 1)))) ((e 1) + (tk_mul (tk_div (e 4) ((e 4) + v)) (z - (e 1)))) ((e 2) - (tk_mul (tk_div (e 3) ((e 4) + v)) (e 3))) ((e 3) - (tk_mul (tk_div (e 3) ((e 4) + v)) (e 4))) ((e 4) - (tk_mul (tk_div (e 4) ((e 4) + v)) (e 4)))) 6), .long ((tk_mv e ((e 0) + (tk_mul (tk_div (e 3) ((e 4) + v)) (z - (e 1)))) ((e 1) + (tk_mul (tk_div (e 4) ((e 4) + v)) (z - (e 1)))) ((e 2) - (tk_mul (tk_div (e 3) ((e 4) + v)) (e 3))) ((e 3) - (tk_mul (tk_div (e 3) ((e 4) + v)) (e 4))) ((e 4) - (tk_mul (tk_div (e 4) ((e 4) + v)) (e 4)))) 7)]))]) H := hP
                          have hD : va_D A ([(h0, .inr (0, [.long ((tk_mv e ((e 0) + (tk_mul (tk_div (e 3) ((e 4) + v)) (z - (e 1)))) ((e 1) + (tk_mul (tk_div (e 4) ((e 4) + v)) (z - (e 1)))) ((e 2) - (tk_mul (tk_div (e 3) ((e 4) + v)) (e 3))) ((e 3) - (tk_mul (tk_div (e 3) ((e 4) + v)) (e 4))) ((e 4) - (tk_mul (tk_div (e 4) ((e 4) + v)) (e 4)))) 0), .long ((tk_mv e ((e 0) + (tk_mul (tk_div (e 3) ((e 4) + v)) (z - (e 1)))) ((e 1) + (tk_mul (tk_div (e 4) ((e 4) + v)) (z - (e 1)))) ((e 2) - (tk_mul (tk_div (e 3) ((e 4) + v)) (e 3))) ((e 3) - (tk_mul (tk_div (e 3) ((e 4) + v)) (e 4))) ((e 4) - (tk_mul (tk_div (e 4) ((e 4) + v)) (e 4)))) 1), .long ((tk_mv e ((e 0) + (tk_mul (tk_div (e 3) ((e 4) + v)) (z - (e 1)))) ((e 1) + (tk_mul (tk_div (e 4) ((e 4) + v)) (z - (e 1)))) ((e 2) - (tk_mul (tk_div (e 3) ((e 4) + v)) (e 3))) ((e 3) - (tk_mul (tk_div (e 3) ((e 4) + v)) (e 4))) ((e 4) - (tk_mul (tk_div (e 4) ((e 4) + v)) (e 4)))) 2), .long ((tk_mv e ((e 0) + (tk_mul (tk_div (e 3) ((e 4) + v)) (z - (e 1)))) ((e 1) + (tk_mul (tk_div (e 4) ((e 4) + v)) (z - (e 1)))) ((e 2) - (tk_mul (tk_div (e 3) ((e 4) + v)) (e 3))) ((e 3) - (tk_mul (tk_div (e 3) ((e 4) + v)) (e 4))) ((e 4) - (tk_mul (tk_div (e 4) ((e 4) + v)) (e 4)))) 3), .long ((tk_mv e ((e 0) + (tk_mul (tk_div (e 3) ((e 4) + v)) (z - (e 1)))) ((e 1) + (tk_mul (tk_div (e 4) ((e 4) + v)) (z - (e 1)))) ((e 2) - (tk_mul (tk_div (e 3) ((e 4) + v)) (e 3))) ((e 3) - (tk_mul (tk_div (e 3) ((e 4) + v)) (e 4))) ((e 4) - (tk_mul (tk_div (e 4) ((e 4) + v)) (e 4)))) 4), .long (z - (e 1)), .long ((tk_mv e ((e 0) + (tk_mul (tk_div (e 3) ((e 4) + v)) (z - (e 1)))) ((e 1) + (tk_mul (tk_div (e 4) ((e 4) + v)) (z - (e 1)))) ((e 2) - (tk_mul (tk_div (e 3) ((e 4) + v)) (e 3))) ((e 3) - (tk_mul (tk_div (e 3) ((e 4) + v)) (e 4))) ((e 4) - (tk_mul (tk_div (e 4) ((e 4) + v)) (e 4)))) 6), .long ((tk_mv e ((e 0) + (tk_mul (tk_div (e 3) ((e 4) + v)) (z - (e 1)))) ((e 1) + (tk_mul (tk_div (e 4) ((e 4) + v)) (z - (e 1)))) ((e 2) - (tk_mul (tk_div (e 3) ((e 4) + v)) (e 3))) ((e 3) - (tk_mul (tk_div (e 3) ((e 4) + v)) (e 4))) ((e 4) - (tk_mul (tk_div (e 4) ((e 4) + v)) (e 4)))) 7)]))]) := hD
                          refine lv_aload_n hx hb dX0_take_227 rfl (lv_at hl 8 rfl) ?_
                          refine lv_lload hx hb dX0_take_228 (lv_at hl 2 rfl) ?_
                          refine va_put (D := D) (ci := 0) (v := .long (tk_div (e 3) ((e 4) + v))) (ty := .long) (C := RX0) (T := TX0) (N := 8) hx hb hts izX0_take_0 tyX0 tyX0_ok nmX0 hown hK hP hD hS 0 rfl rfl 6 (by decide) (hm 9 (.fieldLink RX0 34 "TankFilter$Estimate" "levelGain" "J") rfl) (fun _ h9 => h9) rfl (by decide +kernel) rfl rfl (Nat.le_of_ble_eq_true rfl) dX0_take_230 (fun H locs hP hD hS => ?_)
                          have hP : va_P D vwCl ([(h0, .inr (0, [.long ((tk_mv e ((e 0) + (tk_mul (tk_div (e 3) ((e 4) + v)) (z - (e 1)))) ((e 1) + (tk_mul (tk_div (e 4) ((e 4) + v)) (z - (e 1)))) ((e 2) - (tk_mul (tk_div (e 3) ((e 4) + v)) (e 3))) ((e 3) - (tk_mul (tk_div (e 3) ((e 4) + v)) (e 4))) ((e 4) - (tk_mul (tk_div (e 4) ((e 4) + v)) (e 4)))) 0), .long ((tk_mv e ((e 0) + (tk_mul (tk_div (e 3) ((e 4) + v)) (z - (e 1)))) ((e 1) + (tk_mul (tk_div (e 4) ((e 4) + v)) (z - (e 1)))) ((e 2) - (tk_mul (tk_div (e 3) ((e 4) + v)) (e 3))) ((e 3) - (tk_mul (tk_div (e 3) ((e 4) + v)) (e 4))) ((e 4) - (tk_mul (tk_div (e 4) ((e 4) + v)) (e 4)))) 1), .long ((tk_mv e ((e 0) + (tk_mul (tk_div (e 3) ((e 4) + v)) (z - (e 1)))) ((e 1) + (tk_mul (tk_div (e 4) ((e 4) + v)) (z - (e 1)))) ((e 2) - (tk_mul (tk_div (e 3) ((e 4) + v)) (e 3))) ((e 3) - (tk_mul (tk_div (e 3) ((e 4) + v)) (e 4))) ((e 4) - (tk_mul (tk_div (e 4) ((e 4) + v)) (e 4)))) 2), .long ((tk_mv e ((e 0) + (tk_mul (tk_div (e 3) ((e 4) + v)) (z - (e 1)))) ((e 1) + (tk_mul (tk_div (e 4) ((e 4) + v)) (z - (e 1)))) ((e 2) - (tk_mul (tk_div (e 3) ((e 4) + v)) (e 3))) ((e 3) - (tk_mul (tk_div (e 3) ((e 4) + v)) (e 4))) ((e 4) - (tk_mul (tk_div (e 4) ((e 4) + v)) (e 4)))) 3), .long ((tk_mv e ((e 0) + (tk_mul (tk_div (e 3) ((e 4) + v)) (z - (e 1)))) ((e 1) + (tk_mul (tk_div (e 4) ((e 4) + v)) (z - (e 1)))) ((e 2) - (tk_mul (tk_div (e 3) ((e 4) + v)) (e 3))) ((e 3) - (tk_mul (tk_div (e 3) ((e 4) + v)) (e 4))) ((e 4) - (tk_mul (tk_div (e 4) ((e 4) + v)) (e 4)))) 4), .long (z - (e 1)), .long (tk_div (e 3) ((e 4) + v)), .long ((tk_mv e ((e 0) + (tk_mul (tk_div (e 3) ((e 4) + v)) (z - (e 1)))) ((e 1) + (tk_mul (tk_div (e 4) ((e 4) + v)) (z - (e 1)))) ((e 2) - (tk_mul (tk_div (e 3) ((e 4) + v)) (e 3))) ((e 3) - (tk_mul (tk_div (e 3) ((e 4) + v)) (e 4))) ((e 4) - (tk_mul (tk_div (e 4) ((e 4) + v)) (e 4)))) 7)]))]) H := hP
                          have hD : va_D A ([(h0, .inr (0, [.long ((tk_mv e ((e 0) + (tk_mul (tk_div (e 3) ((e 4) + v)) (z - (e 1)))) ((e 1) + (tk_mul (tk_div (e 4) ((e 4) + v)) (z - (e 1)))) ((e 2) - (tk_mul (tk_div (e 3) ((e 4) + v)) (e 3))) ((e 3) - (tk_mul (tk_div (e 3) ((e 4) + v)) (e 4))) ((e 4) - (tk_mul (tk_div (e 4) ((e 4) + v)) (e 4)))) 0), .long ((tk_mv e ((e 0) + (tk_mul (tk_div (e 3) ((e 4) + v)) (z - (e 1)))) ((e 1) + (tk_mul (tk_div (e 4) ((e 4) + v)) (z - (e 1)))) ((e 2) - (tk_mul (tk_div (e 3) ((e 4) + v)) (e 3))) ((e 3) - (tk_mul (tk_div (e 3) ((e 4) + v)) (e 4))) ((e 4) - (tk_mul (tk_div (e 4) ((e 4) + v)) (e 4)))) 1), .long ((tk_mv e ((e 0) + (tk_mul (tk_div (e 3) ((e 4) + v)) (z - (e 1)))) ((e 1) + (tk_mul (tk_div (e 4) ((e 4) + v)) (z - (e 1)))) ((e 2) - (tk_mul (tk_div (e 3) ((e 4) + v)) (e 3))) ((e 3) - (tk_mul (tk_div (e 3) ((e 4) + v)) (e 4))) ((e 4) - (tk_mul (tk_div (e 4) ((e 4) + v)) (e 4)))) 2), .long ((tk_mv e ((e 0) + (tk_mul (tk_div (e 3) ((e 4) + v)) (z - (e 1)))) ((e 1) + (tk_mul (tk_div (e 4) ((e 4) + v)) (z - (e 1)))) ((e 2) - (tk_mul (tk_div (e 3) ((e 4) + v)) (e 3))) ((e 3) - (tk_mul (tk_div (e 3) ((e 4) + v)) (e 4))) ((e 4) - (tk_mul (tk_div (e 4) ((e 4) + v)) (e 4)))) 3), .long ((tk_mv e ((e 0) + (tk_mul (tk_div (e 3) ((e 4) + v)) (z - (e 1)))) ((e 1) + (tk_mul (tk_div (e 4) ((e 4) + v)) (z - (e 1)))) ((e 2) - (tk_mul (tk_div (e 3) ((e 4) + v)) (e 3))) ((e 3) - (tk_mul (tk_div (e 3) ((e 4) + v)) (e 4))) ((e 4) - (tk_mul (tk_div (e 4) ((e 4) + v)) (e 4)))) 4), .long (z - (e 1)), .long (tk_div (e 3) ((e 4) + v)), .long ((tk_mv e ((e 0) + (tk_mul (tk_div (e 3) ((e 4) + v)) (z - (e 1)))) ((e 1) + (tk_mul (tk_div (e 4) ((e 4) + v)) (z - (e 1)))) ((e 2) - (tk_mul (tk_div (e 3) ((e 4) + v)) (e 3))) ((e 3) - (tk_mul (tk_div (e 3) ((e 4) + v)) (e 4))) ((e 4) - (tk_mul (tk_div (e 4) ((e 4) + v)) (e 4)))) 7)]))]) := hD
                          refine lv_aload_n hx hb dX0_take_233 rfl (lv_at hl 8 rfl) ?_
                          refine lv_lload hx hb dX0_take_234 (lv_at hl 1 rfl) ?_
                          refine va_put (D := D) (ci := 0) (v := .long (tk_div (e 4) ((e 4) + v))) (ty := .long) (C := RX0) (T := TX0) (N := 8) hx hb hts izX0_take_0 tyX0 tyX0_ok nmX0 hown hK hP hD hS 0 rfl rfl 7 (by decide) (hm 10 (.fieldLink RX0 37 "TankFilter$Estimate" "flowGain" "J") rfl) (fun _ h9 => h9) rfl (by decide +kernel) rfl rfl (Nat.le_of_ble_eq_true rfl) dX0_take_236 (fun H locs hP hD hS => ?_)
                          have hP : va_P D vwCl ([(h0, .inr (0, [.long ((tk_mv e ((e 0) + (tk_mul (tk_div (e 3) ((e 4) + v)) (z - (e 1)))) ((e 1) + (tk_mul (tk_div (e 4) ((e 4) + v)) (z - (e 1)))) ((e 2) - (tk_mul (tk_div (e 3) ((e 4) + v)) (e 3))) ((e 3) - (tk_mul (tk_div (e 3) ((e 4) + v)) (e 4))) ((e 4) - (tk_mul (tk_div (e 4) ((e 4) + v)) (e 4)))) 0), .long ((tk_mv e ((e 0) + (tk_mul (tk_div (e 3) ((e 4) + v)) (z - (e 1)))) ((e 1) + (tk_mul (tk_div (e 4) ((e 4) + v)) (z - (e 1)))) ((e 2) - (tk_mul (tk_div (e 3) ((e 4) + v)) (e 3))) ((e 3) - (tk_mul (tk_div (e 3) ((e 4) + v)) (e 4))) ((e 4) - (tk_mul (tk_div (e 4) ((e 4) + v)) (e 4)))) 1), .long ((tk_mv e ((e 0) + (tk_mul (tk_div (e 3) ((e 4) + v)) (z - (e 1)))) ((e 1) + (tk_mul (tk_div (e 4) ((e 4) + v)) (z - (e 1)))) ((e 2) - (tk_mul (tk_div (e 3) ((e 4) + v)) (e 3))) ((e 3) - (tk_mul (tk_div (e 3) ((e 4) + v)) (e 4))) ((e 4) - (tk_mul (tk_div (e 4) ((e 4) + v)) (e 4)))) 2), .long ((tk_mv e ((e 0) + (tk_mul (tk_div (e 3) ((e 4) + v)) (z - (e 1)))) ((e 1) + (tk_mul (tk_div (e 4) ((e 4) + v)) (z - (e 1)))) ((e 2) - (tk_mul (tk_div (e 3) ((e 4) + v)) (e 3))) ((e 3) - (tk_mul (tk_div (e 3) ((e 4) + v)) (e 4))) ((e 4) - (tk_mul (tk_div (e 4) ((e 4) + v)) (e 4)))) 3), .long ((tk_mv e ((e 0) + (tk_mul (tk_div (e 3) ((e 4) + v)) (z - (e 1)))) ((e 1) + (tk_mul (tk_div (e 4) ((e 4) + v)) (z - (e 1)))) ((e 2) - (tk_mul (tk_div (e 3) ((e 4) + v)) (e 3))) ((e 3) - (tk_mul (tk_div (e 3) ((e 4) + v)) (e 4))) ((e 4) - (tk_mul (tk_div (e 4) ((e 4) + v)) (e 4)))) 4), .long (z - (e 1)), .long (tk_div (e 3) ((e 4) + v)), .long (tk_div (e 4) ((e 4) + v))]))]) H := hP
                          have hD : va_D A ([(h0, .inr (0, [.long ((tk_mv e ((e 0) + (tk_mul (tk_div (e 3) ((e 4) + v)) (z - (e 1)))) ((e 1) + (tk_mul (tk_div (e 4) ((e 4) + v)) (z - (e 1)))) ((e 2) - (tk_mul (tk_div (e 3) ((e 4) + v)) (e 3))) ((e 3) - (tk_mul (tk_div (e 3) ((e 4) + v)) (e 4))) ((e 4) - (tk_mul (tk_div (e 4) ((e 4) + v)) (e 4)))) 0), .long ((tk_mv e ((e 0) + (tk_mul (tk_div (e 3) ((e 4) + v)) (z - (e 1)))) ((e 1) + (tk_mul (tk_div (e 4) ((e 4) + v)) (z - (e 1)))) ((e 2) - (tk_mul (tk_div (e 3) ((e 4) + v)) (e 3))) ((e 3) - (tk_mul (tk_div (e 3) ((e 4) + v)) (e 4))) ((e 4) - (tk_mul (tk_div (e 4) ((e 4) + v)) (e 4)))) 1), .long ((tk_mv e ((e 0) + (tk_mul (tk_div (e 3) ((e 4) + v)) (z - (e 1)))) ((e 1) + (tk_mul (tk_div (e 4) ((e 4) + v)) (z - (e 1)))) ((e 2) - (tk_mul (tk_div (e 3) ((e 4) + v)) (e 3))) ((e 3) - (tk_mul (tk_div (e 3) ((e 4) + v)) (e 4))) ((e 4) - (tk_mul (tk_div (e 4) ((e 4) + v)) (e 4)))) 2), .long ((tk_mv e ((e 0) + (tk_mul (tk_div (e 3) ((e 4) + v)) (z - (e 1)))) ((e 1) + (tk_mul (tk_div (e 4) ((e 4) + v)) (z - (e 1)))) ((e 2) - (tk_mul (tk_div (e 3) ((e 4) + v)) (e 3))) ((e 3) - (tk_mul (tk_div (e 3) ((e 4) + v)) (e 4))) ((e 4) - (tk_mul (tk_div (e 4) ((e 4) + v)) (e 4)))) 3), .long ((tk_mv e ((e 0) + (tk_mul (tk_div (e 3) ((e 4) + v)) (z - (e 1)))) ((e 1) + (tk_mul (tk_div (e 4) ((e 4) + v)) (z - (e 1)))) ((e 2) - (tk_mul (tk_div (e 3) ((e 4) + v)) (e 3))) ((e 3) - (tk_mul (tk_div (e 3) ((e 4) + v)) (e 4))) ((e 4) - (tk_mul (tk_div (e 4) ((e 4) + v)) (e 4)))) 4), .long (z - (e 1)), .long (tk_div (e 3) ((e 4) + v)), .long (tk_div (e 4) ((e 4) + v))]))]) := hD
                          refine lv_iconst (v := 1) hx hb dX0_take_239 (by decide) ?_
                          exact W.iret (v := 1) hx hb hr (fun t ht hW => ⟨⟨1, cq_e e (e 3) (e 4) (e 4) (e 1) z v, rfl, Or.inr (Or.inl ⟨(fun y => cq_rej_2 c_23 ((co_rej1 c_1).mp y)), by rw [co_ok1 c_1, cq_ok, p_26, p_28, p_35]; rfl, rfl, (co_e1 c_1).symm⟩), KB.of hAe (by rw [ht]; exact hP) hD⟩, hS.F ht⟩) hS.2.2 dX0_take_240
                        · exact absurd c_36 (by decide)
                      · have hP : va_P D vwCl ([(h0, .inr (0, tk_ev e))]) H := hP
                        have hD : va_D A ([(h0, .inr (0, tk_ev e))]) := hD
                        refine lv_istore (lv' := [(21, .int 0), (19, .long (tk_div (e 4) ((e 4) + v))), (17, .long (tk_div (e 3) ((e 4) + v))), (15, .long ((e 4) + v)), (13, .long (z - (e 1))), (11, .long (e 4)), (9, .long (e 3)), (8, .int 0), (0, .ref h0), (1, .long z), (3, .int kd), (4, .long v), (6, .long g)]) hx hb dX0_take_211 hl (by decide) rfl (fun ls hl => ?_)
                        refine lv_iload hx hb dX0_take_213 (lv_at hl 0 rfl) ?_
                        refine lv_if_ne (tgt := 221) hx hb dX0_take_215 (by decide) (fun c_37 => ?_) (fun c_37 => ?_)
                        · exact absurd c_37 (by decide)
                        · skip
                          refine lv_ldc (v := -2000000004) hx hb hown (hm 6 (.constant RX0 58 (-2000000004)) rfl) dX0_take_218 ?_
                          exact W.iret (v := (-2000000004)) hx hb hr (fun t ht hW => ⟨⟨(-2000000004), e, rfl, Or.inr (Or.inr ⟨(fun y => cq_rej_2 c_23 ((co_rej1 c_1).mp y)), by rw [co_ok1 c_1, cq_ok, p_26, p_28, p_35]; rfl, rfl, rfl⟩), KB.of hAe (by rw [ht]; exact hP) hD⟩, hS.F ht⟩) hS.2.2 dX0_take_220
                    · exact absurd c_29 (by decide)
                  · have hP : va_P D vwCl ([(h0, .inr (0, tk_ev e))]) H := hP
                    have hD : va_D A ([(h0, .inr (0, tk_ev e))]) := hD
                    refine lv_if_ne (tgt := 147) hx hb dX0_take_141 (by decide) (fun c_38 => ?_) (fun c_38 => ?_)
                    · exact absurd c_38 (by decide)
                    · skip
                      refine lv_ldc (v := -2000000004) hx hb hown (hm 6 (.constant RX0 58 (-2000000004)) rfl) dX0_take_144 ?_
                      exact W.iret (v := (-2000000004)) hx hb hr (fun t ht hW => ⟨⟨(-2000000004), e, rfl, Or.inr (Or.inr ⟨(fun y => cq_rej_2 c_23 ((co_rej1 c_1).mp y)), by rw [co_ok1 c_1, cq_ok, p_26, p_28]; rfl, rfl, rfl⟩), KB.of hAe (by rw [ht]; exact hP) hD⟩, hS.F ht⟩) hS.2.2 dX0_take_146
              · have hP : va_P D vwCl ([(h0, .inr (0, tk_ev e))]) H := hP
                have hD : va_D A ([(h0, .inr (0, tk_ev e))]) := hD
                refine lv_if_eq (tgt := 144) hx hb dX0_take_133 (by decide) (fun c_39 => ?_) (fun c_39 => ?_)
                · skip
                  refine lv_ldc (v := -2000000004) hx hb hown (hm 6 (.constant RX0 58 (-2000000004)) rfl) dX0_take_144 ?_
                  exact W.iret (v := (-2000000004)) hx hb hr (fun t ht hW => ⟨⟨(-2000000004), e, rfl, Or.inr (Or.inr ⟨(fun y => cq_rej_2 c_23 ((co_rej1 c_1).mp y)), by rw [co_ok1 c_1, cq_ok, p_26]; rfl, rfl, rfl⟩), KB.of hAe (by rw [ht]; exact hP) hD⟩, hS.F ht⟩) hS.2.2 dX0_take_146
                · exact absurd c_39 (by decide)
            · have c_23 := mt (lg_cmp_le _ _).mpr c_23
              refine lv_aload_n hx hb dX0_take_102 rfl (lv_at hl 5 rfl) ?_
              refine lv_lload hx hb dX0_take_103 (lv_at hl 1 rfl) ?_
              refine va_put (D := D) (ci := 0) (v := .long (z - (e 1))) (ty := .long) (C := RX0) (T := TX0) (N := 8) hx hb hts izX0_take_0 tyX0 tyX0_ok nmX0 hown hK hP hD hS 0 rfl rfl 5 (by decide) (hm 5 (.fieldLink RX0 31 "TankFilter$Estimate" "innovation" "J") rfl) (fun _ h9 => h9) rfl (by decide +kernel) rfl rfl (Nat.le_of_ble_eq_true rfl) dX0_take_105 (fun H locs hP hD hS => ?_)
              have hP : va_P D vwCl ([(h0, .inr (0, [.long (e 0), .long (e 1), .long (e 2), .long (e 3), .long (e 4), .long (z - (e 1)), .long (e 6), .long (e 7)]))]) H := hP
              have hD : va_D A ([(h0, .inr (0, [.long (e 0), .long (e 1), .long (e 2), .long (e 3), .long (e 4), .long (z - (e 1)), .long (e 6), .long (e 7)]))]) := hD
              refine lv_iconst (v := 0) hx hb dX0_take_108 (by decide) ?_
              exact W.iret (v := 0) hx hb hr (fun t ht hW => ⟨⟨0, tk_y e (z - e 1), rfl, Or.inl ⟨(co_rej1 c_1).mpr (cq_rej_t c_6 c_23), rfl, by rw [co_m1 c_1]⟩, KB.of hAe (by rw [ht]; exact hP) hD⟩, hS.F ht⟩) hS.2.2 dX0_take_109
        · exact absurd c_5 (by decide)
      · exact absurd c_3 (by decide)
    · exact absurd c_2 (by decide)
  · skip
    refine lv_iconst (v := 1) hx hb dX0_take_4 (by decide) ?_
    refine lv_goto (tgt := 9) hx hb dX0_take_5 (by decide) ?_
    refine lv_istore (lv' := [(8, .int 1), (0, .ref h0), (1, .long z), (3, .int kd), (4, .long v), (6, .long g)]) hx hb dX0_take_9 hl (by decide) rfl (fun ls hl => ?_)
    refine lv_iload hx hb dX0_take_11 (lv_at hl 0 rfl) ?_
    refine lv_if_eq (tgt := 23) hx hb dX0_take_13 (by decide) (fun c_40 => ?_) (fun c_40 => ?_)
    · exact absurd c_40 (by decide)
    · skip
      refine lv_aload_n hx hb dX0_take_16 rfl (lv_at hl 1 rfl) ?_
      refine va_get (D := D) (ci := 0) (v := .long (e 2)) (C := RX0) (T := TX0) (N := 8) hx hb hts izX0_take_0 hown hK hP 0 rfl rfl 2 (by decide) (hm 1 (.fieldLink RX0 20 "TankFilter$Estimate" "levelVariance" "J") rfl) (fun _ h9 => h9) rfl dX0_take_17 ?_
      refine lv_goto (tgt := 27) hx hb dX0_take_20 (by decide) ?_
      refine lv_lstore (lv' := [(9, .long (e 2)), (8, .int 1), (0, .ref h0), (1, .long z), (3, .int kd), (4, .long v), (6, .long g)]) hx hb dX0_take_27 hl (by decide) rfl (fun ls hl => ?_)
      refine lv_iload hx hb dX0_take_29 (lv_at hl 1 rfl) ?_
      refine lv_if_eq (tgt := 41) hx hb dX0_take_31 (by decide) (fun c_41 => ?_) (fun c_41 => ?_)
      · exact absurd c_41 (by decide)
      · skip
        refine lv_aload_n hx hb dX0_take_34 rfl (lv_at hl 2 rfl) ?_
        refine va_get (D := D) (ci := 0) (v := .long (e 3)) (C := RX0) (T := TX0) (N := 8) hx hb hts izX0_take_0 hown hK hP 0 rfl rfl 3 (by decide) (hm 2 (.fieldLink RX0 23 "TankFilter$Estimate" "covariance" "J") rfl) (fun _ h9 => h9) rfl dX0_take_35 ?_
        refine lv_goto (tgt := 45) hx hb dX0_take_38 (by decide) ?_
        refine lv_lstore (lv' := [(11, .long (e 3)), (9, .long (e 2)), (8, .int 1), (0, .ref h0), (1, .long z), (3, .int kd), (4, .long v), (6, .long g)]) hx hb dX0_take_45 hl (by decide) rfl (fun ls hl => ?_)
        refine lv_lload_n hx hb dX0_take_47 rfl (lv_at hl 4 rfl) ?_
        refine lv_aload_n hx hb dX0_take_48 rfl (lv_at hl 3 rfl) ?_
        refine lv_iload_n hx hb dX0_take_49 rfl (lv_at hl 5 rfl) ?_
        refine kc_l (wc := [(h0, .inr (0, tk_ev e))]) (wr := []) (va_runV (As := [.int kd]) (rest := [.long z]) ⟨hx, hb, hml, hown, hts⟩ (k_X0_mean l D cI cM cJ H.size h0 e kd) (cwV 1 hts gX0_take_X0_mean rfl rfl rfl (by decide +kernel) ⟨Nat.le_of_ble_eq_true rfl, Nat.le_of_ble_eq_true rfl⟩) (kp_preV (q := (RX0, TX0, 8)) hN hK hP hD 0 rfl rfl) rfl rfl hl.1 rfl (lv_room (Nat.le_of_ble_eq_true rfl)) dX0_take_50 ⟨Nat.le_of_ble_eq_true rfl, Nat.le_of_ble_eq_true rfl⟩) hP hD hS hA (fun r_42 u_42 H locs p_42 hP hD hS => ?_)
        obtain rfl : r_42 = e 0 := p_42.trans (co_m0 c_1)
        have hP : va_P D vwCl ([(h0, .inr (0, tk_ev e))]) H := hP
        have hD : va_D A ([(h0, .inr (0, tk_ev e))]) := hD
        refine lv_lsub hx hb dX0_take_53 ?_
        refine lv_lstore (lv' := [(13, .long (z - (e 0))), (11, .long (e 3)), (9, .long (e 2)), (8, .int 1), (0, .ref h0), (1, .long z), (3, .int kd), (4, .long v), (6, .long g)]) hx hb dX0_take_54 hl (by decide) rfl (fun ls hl => ?_)
        refine lv_iload hx hb dX0_take_56 (lv_at hl 3 rfl) ?_
        refine lv_if_eq (tgt := 68) hx hb dX0_take_58 (by decide) (fun c_43 => ?_) (fun c_43 => ?_)
        · exact absurd c_43 (by decide)
        · skip
          refine lv_aload_n hx hb dX0_take_61 rfl (lv_at hl 4 rfl) ?_
          refine va_get (D := D) (ci := 0) (v := .long (e 2)) (C := RX0) (T := TX0) (N := 8) hx hb hts izX0_take_0 hown hK hP 0 rfl rfl 2 (by decide) (hm 1 (.fieldLink RX0 20 "TankFilter$Estimate" "levelVariance" "J") rfl) (fun _ h9 => h9) rfl dX0_take_62 ?_
          refine lv_goto (tgt := 72) hx hb dX0_take_65 (by decide) ?_
          refine lv_lload hx hb dX0_take_72 (lv_at hl 7 rfl) ?_
          refine lv_ladd hx hb dX0_take_74 ?_
          refine lv_lstore (lv' := [(15, .long ((e 2) + v)), (13, .long (z - (e 0))), (11, .long (e 3)), (9, .long (e 2)), (8, .int 1), (0, .ref h0), (1, .long z), (3, .int kd), (4, .long v), (6, .long g)]) hx hb dX0_take_75 hl (by decide) rfl (fun ls hl => ?_)
          refine lv_lload hx hb dX0_take_77 (lv_at hl 9 rfl) ?_
          refine lv_lconst (v := 0) hx hb dX0_take_79 (by decide) ?_
          refine W.lcmp hx hb dX0_take_80 ?_
          refine lv_if_eq (tgt := 110) hx hb dX0_take_81 (by decide) (fun c_44 => ?_) (fun c_44 => ?_)
          · have c_44 := (lg_cmp_eq _ _).mp c_44
            refine lv_lload hx hb dX0_take_110 (lv_at hl 3 rfl) ?_
            refine lv_lload hx hb dX0_take_112 (lv_at hl 0 rfl) ?_
            refine kc_l (wc := []) (wr := [(h0, .inr (0, tk_ev e))]) (va_runSN (As := [.long (e 2), .long ((e 2) + v)]) (rest := []) ⟨hx, hb, hml, hown, hts⟩ (k_X3_dividedBy l D cI cM cJ H.size (e 2) ((e 2) + v) ((co_p0 c_1) ▸ hs)) ⟨va_cnB 2 hts gX0_take_X3_dividedBy_n50 rfl rfl rfl (hN.at 37 rfl) (hm 17 (.initialized RX3) rfl) (by decide +kernel) ⟨Nat.le_of_ble_eq_true rfl, Nat.le_of_ble_eq_true rfl⟩, (hm 16 (.static yX3_dividedBy) rfl), trivial⟩ (kp_preS hN hK hP hD) rfl rfl hl.1 rfl (lv_room (Nat.le_of_ble_eq_true rfl)) dX0_take_114 ⟨Nat.le_of_ble_eq_true rfl, Nat.le_of_ble_eq_true rfl⟩) hP hD hS hA (fun r_45 u_45 H locs p_45 hP hD hS => ?_)
            obtain rfl : r_45 = tk_div (e 2) ((e 2) + v) := p_45
            have hP : va_P D vwCl ([(h0, .inr (0, tk_ev e))]) H := hP
            have hD : va_D A ([(h0, .inr (0, tk_ev e))]) := hD
            refine lv_lstore (lv' := [(17, .long (tk_div (e 2) ((e 2) + v))), (15, .long ((e 2) + v)), (13, .long (z - (e 0))), (11, .long (e 3)), (9, .long (e 2)), (8, .int 1), (0, .ref h0), (1, .long z), (3, .int kd), (4, .long v), (6, .long g)]) hx hb dX0_take_117 hl (by decide) rfl (fun ls hl => ?_)
            refine lv_lload hx hb dX0_take_119 (lv_at hl 3 rfl) ?_
            refine lv_lload hx hb dX0_take_121 (lv_at hl 1 rfl) ?_
            refine kc_l (wc := []) (wr := [(h0, .inr (0, tk_ev e))]) (va_runSN (As := [.long (e 3), .long ((e 2) + v)]) (rest := []) ⟨hx, hb, hml, hown, hts⟩ (k_X3_dividedBy l D cI cM cJ H.size (e 3) ((e 2) + v) ((co_p0 c_1) ▸ hs)) ⟨va_cnB 2 hts gX0_take_X3_dividedBy_n50 rfl rfl rfl (hN.at 37 rfl) (hm 17 (.initialized RX3) rfl) (by decide +kernel) ⟨Nat.le_of_ble_eq_true rfl, Nat.le_of_ble_eq_true rfl⟩, (hm 16 (.static yX3_dividedBy) rfl), trivial⟩ (kp_preS hN hK hP hD) rfl rfl hl.1 rfl (lv_room (Nat.le_of_ble_eq_true rfl)) dX0_take_123 ⟨Nat.le_of_ble_eq_true rfl, Nat.le_of_ble_eq_true rfl⟩) hP hD hS hA (fun r_46 u_46 H locs p_46 hP hD hS => ?_)
            obtain rfl : r_46 = tk_div (e 3) ((e 2) + v) := p_46
            have hP : va_P D vwCl ([(h0, .inr (0, tk_ev e))]) H := hP
            have hD : va_D A ([(h0, .inr (0, tk_ev e))]) := hD
            refine lv_lstore (lv' := [(19, .long (tk_div (e 3) ((e 2) + v))), (17, .long (tk_div (e 2) ((e 2) + v))), (15, .long ((e 2) + v)), (13, .long (z - (e 0))), (11, .long (e 3)), (9, .long (e 2)), (8, .int 1), (0, .ref h0), (1, .long z), (3, .int kd), (4, .long v), (6, .long g)]) hx hb dX0_take_126 hl (by decide) rfl (fun ls hl => ?_)
            refine lv_lload hx hb dX0_take_128 (lv_at hl 1 rfl) ?_
            refine kc_i (wc := []) (wr := [(h0, .inr (0, tk_ev e))]) (va_runSN (As := [.long (tk_div (e 2) ((e 2) + v))]) (rest := []) ⟨hx, hb, hml, hown, hts⟩ (k_X3_isInLimit l D cI cM cJ H.size (tk_div (e 2) ((e 2) + v))) ⟨va_cnB 1 hts gX0_take_X3_isInLimit_n54 rfl rfl rfl (hN.at 34 rfl) (hm 17 (.initialized RX3) rfl) (by decide +kernel) ⟨Nat.le_of_ble_eq_true rfl, Nat.le_of_ble_eq_true rfl⟩, (hm 25 (.static yX3_isInLimit) rfl), trivial⟩ (kp_preS hN hK hP hD) rfl rfl hl.1 rfl (lv_room (Nat.le_of_ble_eq_true rfl)) dX0_take_130 ⟨Nat.le_of_ble_eq_true rfl, Nat.le_of_ble_eq_true rfl⟩) hP hD hS hA (fun r_47 u_47 H locs p_47 hP hD hS => ?_)
            rcases p_47 with ⟨p_47, rfl⟩ | ⟨p_47, rfl⟩
            · have hP : va_P D vwCl ([(h0, .inr (0, tk_ev e))]) H := hP
              have hD : va_D A ([(h0, .inr (0, tk_ev e))]) := hD
              refine lv_if_eq (tgt := 144) hx hb dX0_take_133 (by decide) (fun c_48 => ?_) (fun c_48 => ?_)
              · exact absurd c_48 (by decide)
              · skip
                refine lv_lload hx hb dX0_take_136 (lv_at hl 0 rfl) ?_
                refine kc_i (wc := []) (wr := [(h0, .inr (0, tk_ev e))]) (va_runSN (As := [.long (tk_div (e 3) ((e 2) + v))]) (rest := []) ⟨hx, hb, hml, hown, hts⟩ (k_X3_isInLimit l D cI cM cJ H.size (tk_div (e 3) ((e 2) + v))) ⟨va_cnB 1 hts gX0_take_X3_isInLimit_n54 rfl rfl rfl (hN.at 34 rfl) (hm 17 (.initialized RX3) rfl) (by decide +kernel) ⟨Nat.le_of_ble_eq_true rfl, Nat.le_of_ble_eq_true rfl⟩, (hm 25 (.static yX3_isInLimit) rfl), trivial⟩ (kp_preS hN hK hP hD) rfl rfl hl.1 rfl (lv_room (Nat.le_of_ble_eq_true rfl)) dX0_take_138 ⟨Nat.le_of_ble_eq_true rfl, Nat.le_of_ble_eq_true rfl⟩) hP hD hS hA (fun r_49 u_49 H locs p_49 hP hD hS => ?_)
                rcases p_49 with ⟨p_49, rfl⟩ | ⟨p_49, rfl⟩
                · have hP : va_P D vwCl ([(h0, .inr (0, tk_ev e))]) H := hP
                  have hD : va_D A ([(h0, .inr (0, tk_ev e))]) := hD
                  refine lv_if_ne (tgt := 147) hx hb dX0_take_141 (by decide) (fun c_50 => ?_) (fun c_50 => ?_)
                  · skip
                    refine lv_aload_n hx hb dX0_take_147 rfl (lv_at hl 7 rfl) ?_
                    refine lv_aload_n hx hb dX0_take_148 rfl (lv_at hl 7 rfl) ?_
                    refine va_get (D := D) (ci := 0) (v := .long (e 0)) (C := RX0) (T := TX0) (N := 8) hx hb hts izX0_take_0 hown hK hP 0 rfl rfl 0 (by decide) (hm 7 (.fieldLink RX0 9 "TankFilter$Estimate" "level" "J") rfl) (fun _ h9 => h9) rfl dX0_take_149 ?_
                    refine lv_lload hx hb dX0_take_152 (lv_at hl 1 rfl) ?_
                    refine lv_lload hx hb dX0_take_154 (lv_at hl 3 rfl) ?_
                    refine kc_l (wc := []) (wr := [(h0, .inr (0, tk_ev e))]) (va_runSN (As := [.long (tk_div (e 2) ((e 2) + v)), .long (z - (e 0))]) (rest := [.long (e 0), .ref h0]) ⟨hx, hb, hml, hown, hts⟩ (k_X3_times l D cI cM cJ H.size (tk_div (e 2) ((e 2) + v)) (z - (e 0))) ⟨va_cnB 2 hts gX0_take_X3_times_n59 rfl rfl rfl (hN.at 38 rfl) (hm 17 (.initialized RX3) rfl) (by decide +kernel) ⟨Nat.le_of_ble_eq_true rfl, Nat.le_of_ble_eq_true rfl⟩, (hm 29 (.static yX3_times) rfl), trivial⟩ (kp_preS hN hK hP hD) rfl rfl hl.1 rfl (lv_room (Nat.le_of_ble_eq_true rfl)) dX0_take_156 ⟨Nat.le_of_ble_eq_true rfl, Nat.le_of_ble_eq_true rfl⟩) hP hD hS hA (fun r_51 u_51 H locs p_51 hP hD hS => ?_)
                    obtain rfl : r_51 = tk_mul (tk_div (e 2) ((e 2) + v)) (z - (e 0)) := p_51
                    have hP : va_P D vwCl ([(h0, .inr (0, tk_ev e))]) H := hP
                    have hD : va_D A ([(h0, .inr (0, tk_ev e))]) := hD
                    refine lv_ladd hx hb dX0_take_159 ?_
                    refine lv_aload_n hx hb dX0_take_160 rfl (lv_at hl 7 rfl) ?_
                    refine va_get (D := D) (ci := 0) (v := .long (e 1)) (C := RX0) (T := TX0) (N := 8) hx hb hts izX0_take_0 hown hK hP 0 rfl rfl 1 (by decide) (hm 8 (.fieldLink RX0 15 "TankFilter$Estimate" "flow" "J") rfl) (fun _ h9 => h9) rfl dX0_take_161 ?_
                    refine lv_lload hx hb dX0_take_164 (lv_at hl 0 rfl) ?_
                    refine lv_lload hx hb dX0_take_166 (lv_at hl 3 rfl) ?_
                    refine kc_l (wc := []) (wr := [(h0, .inr (0, tk_ev e))]) (va_runSN (As := [.long (tk_div (e 3) ((e 2) + v)), .long (z - (e 0))]) (rest := [.long (e 1), .long ((e 0) + (tk_mul (tk_div (e 2) ((e 2) + v)) (z - (e 0)))), .ref h0]) ⟨hx, hb, hml, hown, hts⟩ (k_X3_times l D cI cM cJ H.size (tk_div (e 3) ((e 2) + v)) (z - (e 0))) ⟨va_cnB 2 hts gX0_take_X3_times_n59 rfl rfl rfl (hN.at 38 rfl) (hm 17 (.initialized RX3) rfl) (by decide +kernel) ⟨Nat.le_of_ble_eq_true rfl, Nat.le_of_ble_eq_true rfl⟩, (hm 29 (.static yX3_times) rfl), trivial⟩ (kp_preS hN hK hP hD) rfl rfl hl.1 rfl (lv_room (Nat.le_of_ble_eq_true rfl)) dX0_take_168 ⟨Nat.le_of_ble_eq_true rfl, Nat.le_of_ble_eq_true rfl⟩) hP hD hS hA (fun r_52 u_52 H locs p_52 hP hD hS => ?_)
                    obtain rfl : r_52 = tk_mul (tk_div (e 3) ((e 2) + v)) (z - (e 0)) := p_52
                    have hP : va_P D vwCl ([(h0, .inr (0, tk_ev e))]) H := hP
                    have hD : va_D A ([(h0, .inr (0, tk_ev e))]) := hD
                    refine lv_ladd hx hb dX0_take_171 ?_
                    refine lv_aload_n hx hb dX0_take_172 rfl (lv_at hl 7 rfl) ?_
                    refine va_get (D := D) (ci := 0) (v := .long (e 2)) (C := RX0) (T := TX0) (N := 8) hx hb hts izX0_take_0 hown hK hP 0 rfl rfl 2 (by decide) (hm 1 (.fieldLink RX0 20 "TankFilter$Estimate" "levelVariance" "J") rfl) (fun _ h9 => h9) rfl dX0_take_173 ?_
                    refine lv_lload hx hb dX0_take_176 (lv_at hl 1 rfl) ?_
                    refine lv_lload hx hb dX0_take_178 (lv_at hl 5 rfl) ?_
                    refine kc_l (wc := []) (wr := [(h0, .inr (0, tk_ev e))]) (va_runSN (As := [.long (tk_div (e 2) ((e 2) + v)), .long (e 2)]) (rest := [.long (e 2), .long ((e 1) + (tk_mul (tk_div (e 3) ((e 2) + v)) (z - (e 0)))), .long ((e 0) + (tk_mul (tk_div (e 2) ((e 2) + v)) (z - (e 0)))), .ref h0]) ⟨hx, hb, hml, hown, hts⟩ (k_X3_times l D cI cM cJ H.size (tk_div (e 2) ((e 2) + v)) (e 2)) ⟨va_cnB 2 hts gX0_take_X3_times_n59 rfl rfl rfl (hN.at 38 rfl) (hm 17 (.initialized RX3) rfl) (by decide +kernel) ⟨Nat.le_of_ble_eq_true rfl, Nat.le_of_ble_eq_true rfl⟩, (hm 29 (.static yX3_times) rfl), trivial⟩ (kp_preS hN hK hP hD) rfl rfl hl.1 rfl (lv_room (Nat.le_of_ble_eq_true rfl)) dX0_take_180 ⟨Nat.le_of_ble_eq_true rfl, Nat.le_of_ble_eq_true rfl⟩) hP hD hS hA (fun r_53 u_53 H locs p_53 hP hD hS => ?_)
                    obtain rfl : r_53 = tk_mul (tk_div (e 2) ((e 2) + v)) (e 2) := p_53
                    have hP : va_P D vwCl ([(h0, .inr (0, tk_ev e))]) H := hP
                    have hD : va_D A ([(h0, .inr (0, tk_ev e))]) := hD
                    refine lv_lsub hx hb dX0_take_183 ?_
                    refine lv_aload_n hx hb dX0_take_184 rfl (lv_at hl 7 rfl) ?_
                    refine va_get (D := D) (ci := 0) (v := .long (e 3)) (C := RX0) (T := TX0) (N := 8) hx hb hts izX0_take_0 hown hK hP 0 rfl rfl 3 (by decide) (hm 2 (.fieldLink RX0 23 "TankFilter$Estimate" "covariance" "J") rfl) (fun _ h9 => h9) rfl dX0_take_185 ?_
                    refine lv_lload hx hb dX0_take_188 (lv_at hl 1 rfl) ?_
                    refine lv_lload hx hb dX0_take_190 (lv_at hl 4 rfl) ?_
                    refine kc_l (wc := []) (wr := [(h0, .inr (0, tk_ev e))]) (kw_runSN 16 2 (As := [.long (tk_div (e 2) ((e 2) + v)), .long (e 3)]) (rest := [.long (e 3), .long ((e 2) - (tk_mul (tk_div (e 2) ((e 2) + v)) (e 2))), .long ((e 1) + (tk_mul (tk_div (e 3) ((e 2) + v)) (z - (e 0)))), .long ((e 0) + (tk_mul (tk_div (e 2) ((e 2) + v)) (z - (e 0)))), .ref h0]) ⟨hx, hb, hml, hown, hts⟩ (k_X3_times l D cI cM cJ H.size (tk_div (e 2) ((e 2) + v)) (e 3)) gX0_take_X3_times_n59 rfl rfl rfl (hN.at 38 rfl) (hm 17 (.initialized RX3) rfl) (hm 29 (.static yX3_times) rfl) (by decide +kernel) ⟨Nat.le_of_ble_eq_true rfl, Nat.le_of_ble_eq_true rfl⟩ (kp_preS hN hK hP hD) rfl rfl hl.1 rfl (kw_room (Nat.le_of_ble_eq_true rfl)) dX0_take_192 ⟨Nat.le_of_ble_eq_true rfl, Nat.le_of_ble_eq_true rfl⟩) hP hD hS hA (fun r_54 u_54 H locs p_54 hP hD hS => ?_)
                    obtain rfl : r_54 = tk_mul (tk_div (e 2) ((e 2) + v)) (e 3) := p_54
                    have hP : va_P D vwCl ([(h0, .inr (0, tk_ev e))]) H := hP
                    have hD : va_D A ([(h0, .inr (0, tk_ev e))]) := hD
                    refine lv_lsub hx hb dX0_take_195 ?_
                    refine lv_aload_n hx hb dX0_take_196 rfl (lv_at hl 7 rfl) ?_
                    refine va_get (D := D) (ci := 0) (v := .long (e 4)) (C := RX0) (T := TX0) (N := 8) hx hb hts izX0_take_0 hown hK hP 0 rfl rfl 4 (by decide) (hm 3 (.fieldLink RX0 26 "TankFilter$Estimate" "flowVariance" "J") rfl) (fun _ h9 => h9) rfl dX0_take_197 ?_
                    refine lv_lload hx hb dX0_take_200 (lv_at hl 0 rfl) ?_
                    refine lv_lload hx hb dX0_take_202 (lv_at hl 4 rfl) ?_
                    refine kc_l (wc := []) (wr := [(h0, .inr (0, tk_ev e))]) (kw_runSN 16 2 (As := [.long (tk_div (e 3) ((e 2) + v)), .long (e 3)]) (rest := [.long (e 4), .long ((e 3) - (tk_mul (tk_div (e 2) ((e 2) + v)) (e 3))), .long ((e 2) - (tk_mul (tk_div (e 2) ((e 2) + v)) (e 2))), .long ((e 1) + (tk_mul (tk_div (e 3) ((e 2) + v)) (z - (e 0)))), .long ((e 0) + (tk_mul (tk_div (e 2) ((e 2) + v)) (z - (e 0)))), .ref h0]) ⟨hx, hb, hml, hown, hts⟩ (k_X3_times l D cI cM cJ H.size (tk_div (e 3) ((e 2) + v)) (e 3)) gX0_take_X3_times_n59 rfl rfl rfl (hN.at 38 rfl) (hm 17 (.initialized RX3) rfl) (hm 29 (.static yX3_times) rfl) (by decide +kernel) ⟨Nat.le_of_ble_eq_true rfl, Nat.le_of_ble_eq_true rfl⟩ (kp_preS hN hK hP hD) rfl rfl hl.1 rfl (kw_room (Nat.le_of_ble_eq_true rfl)) dX0_take_204 ⟨Nat.le_of_ble_eq_true rfl, Nat.le_of_ble_eq_true rfl⟩) hP hD hS hA (fun r_55 u_55 H locs p_55 hP hD hS => ?_)
                    obtain rfl : r_55 = tk_mul (tk_div (e 3) ((e 2) + v)) (e 3) := p_55
                    have hP : va_P D vwCl ([(h0, .inr (0, tk_ev e))]) H := hP
                    have hD : va_D A ([(h0, .inr (0, tk_ev e))]) := hD
                    refine lv_lsub hx hb dX0_take_207 ?_
                    refine kc_i (wc := [(h0, .inr (0, tk_ev e))]) (wr := []) (va_runV (As := [.long ((e 0) + (tk_mul (tk_div (e 2) ((e 2) + v)) (z - (e 0)))), .long ((e 1) + (tk_mul (tk_div (e 3) ((e 2) + v)) (z - (e 0)))), .long ((e 2) - (tk_mul (tk_div (e 2) ((e 2) + v)) (e 2))), .long ((e 3) - (tk_mul (tk_div (e 2) ((e 2) + v)) (e 3))), .long ((e 4) - (tk_mul (tk_div (e 3) ((e 2) + v)) (e 3)))]) (rest := []) ⟨hx, hb, hml, hown, hts⟩ (k_X0_move l D cI cM cJ H.size h0 e ((e 0) + (tk_mul (tk_div (e 2) ((e 2) + v)) (z - (e 0)))) ((e 1) + (tk_mul (tk_div (e 3) ((e 2) + v)) (z - (e 0)))) ((e 2) - (tk_mul (tk_div (e 2) ((e 2) + v)) (e 2))) ((e 3) - (tk_mul (tk_div (e 2) ((e 2) + v)) (e 3))) ((e 4) - (tk_mul (tk_div (e 3) ((e 2) + v)) (e 3)))) (cwV 5 hts gX0_take_X0_move rfl rfl rfl (by decide +kernel) ⟨Nat.le_of_ble_eq_true rfl, Nat.le_of_ble_eq_true rfl⟩) (kp_preV (q := (RX0, TX0, 8)) hN hK hP hD 0 rfl rfl) rfl rfl hl.1 rfl (lv_room (Nat.le_of_ble_eq_true rfl)) dX0_take_208 ⟨Nat.le_of_ble_eq_true rfl, Nat.le_of_ble_eq_true rfl⟩) hP hD hS hA (fun r_56 u_56 H locs p_56 hP hD hS => ?_)
                    rcases p_56 with ⟨p_56, rfl, rfl⟩ | ⟨p_56, rfl, rfl⟩
                    · have hP : va_P D vwCl ([(h0, .inr (0, tk_ev (tk_mv e ((e 0) + (tk_mul (tk_div (e 2) ((e 2) + v)) (z - (e 0)))) ((e 1) + (tk_mul (tk_div (e 3) ((e 2) + v)) (z - (e 0)))) ((e 2) - (tk_mul (tk_div (e 2) ((e 2) + v)) (e 2))) ((e 3) - (tk_mul (tk_div (e 2) ((e 2) + v)) (e 3))) ((e 4) - (tk_mul (tk_div (e 3) ((e 2) + v)) (e 3))))))]) H := hP
                      have hD : va_D A ([(h0, .inr (0, tk_ev (tk_mv e ((e 0) + (tk_mul (tk_div (e 2) ((e 2) + v)) (z - (e 0)))) ((e 1) + (tk_mul (tk_div (e 3) ((e 2) + v)) (z - (e 0)))) ((e 2) - (tk_mul (tk_div (e 2) ((e 2) + v)) (e 2))) ((e 3) - (tk_mul (tk_div (e 2) ((e 2) + v)) (e 3))) ((e 4) - (tk_mul (tk_div (e 3) ((e 2) + v)) (e 3))))))]) := hD
                      refine lv_istore (lv' := [(21, .int 1), (19, .long (tk_div (e 3) ((e 2) + v))), (17, .long (tk_div (e 2) ((e 2) + v))), (15, .long ((e 2) + v)), (13, .long (z - (e 0))), (11, .long (e 3)), (9, .long (e 2)), (8, .int 1), (0, .ref h0), (1, .long z), (3, .int kd), (4, .long v), (6, .long g)]) hx hb dX0_take_211 hl (by decide) rfl (fun ls hl => ?_)
                      refine lv_iload hx hb dX0_take_213 (lv_at hl 0 rfl) ?_
                      refine lv_if_ne (tgt := 221) hx hb dX0_take_215 (by decide) (fun c_57 => ?_) (fun c_57 => ?_)
                      · skip
                        refine lv_aload_n hx hb dX0_take_221 rfl (lv_at hl 8 rfl) ?_
                        refine lv_lload hx hb dX0_take_222 (lv_at hl 4 rfl) ?_
                        refine va_put (D := D) (ci := 0) (v := .long (z - (e 0))) (ty := .long) (C := RX0) (T := TX0) (N := 8) hx hb hts izX0_take_0 tyX0 tyX0_ok nmX0 hown hK hP hD hS 0 rfl rfl 5 (by decide) (hm 5 (.fieldLink RX0 31 "TankFilter$Estimate" "innovation" "J") rfl) (fun _ h9 => h9) rfl (by decide +kernel) rfl rfl (Nat.le_of_ble_eq_true rfl) dX0_take_224 (fun H locs hP hD hS => ?_)
                        have hP : va_P D vwCl ([(h0, .inr (0, [.long ((tk_mv e ((e 0) + (tk_mul (tk_div (e 2) ((e 2) + v)) (z - (e 0)))) ((e 1) + (tk_mul (tk_div (e 3) ((e 2) + v)) (z - (e 0)))) ((e 2) - (tk_mul (tk_div (e 2) ((e 2) + v)) (e 2))) ((e 3) - (tk_mul (tk_div (e 2) ((e 2) + v)) (e 3))) ((e 4) - (tk_mul (tk_div (e 3) ((e 2) + v)) (e 3)))) 0), .long ((tk_mv e ((e 0) + (tk_mul (tk_div (e 2) ((e 2) + v)) (z - (e 0)))) ((e 1) + (tk_mul (tk_div (e 3) ((e 2) + v)) (z - (e 0)))) ((e 2) - (tk_mul (tk_div (e 2) ((e 2) + v)) (e 2))) ((e 3) - (tk_mul (tk_div (e 2) ((e 2) + v)) (e 3))) ((e 4) - (tk_mul (tk_div (e 3) ((e 2) + v)) (e 3)))) 1), .long ((tk_mv e ((e 0) + (tk_mul (tk_div (e 2) ((e 2) + v)) (z - (e 0)))) ((e 1) + (tk_mul (tk_div (e 3) ((e 2) + v)) (z - (e 0)))) ((e 2) - (tk_mul (tk_div (e 2) ((e 2) + v)) (e 2))) ((e 3) - (tk_mul (tk_div (e 2) ((e 2) + v)) (e 3))) ((e 4) - (tk_mul (tk_div (e 3) ((e 2) + v)) (e 3)))) 2), .long ((tk_mv e ((e 0) + (tk_mul (tk_div (e 2) ((e 2) + v)) (z - (e 0)))) ((e 1) + (tk_mul (tk_div (e 3) ((e 2) + v)) (z - (e 0)))) ((e 2) - (tk_mul (tk_div (e 2) ((e 2) + v)) (e 2))) ((e 3) - (tk_mul (tk_div (e 2) ((e 2) + v)) (e 3))) ((e 4) - (tk_mul (tk_div (e 3) ((e 2) + v)) (e 3)))) 3), .long ((tk_mv e ((e 0) + (tk_mul (tk_div (e 2) ((e 2) + v)) (z - (e 0)))) ((e 1) + (tk_mul (tk_div (e 3) ((e 2) + v)) (z - (e 0)))) ((e 2) - (tk_mul (tk_div (e 2) ((e 2) + v)) (e 2))) ((e 3) - (tk_mul (tk_div (e 2) ((e 2) + v)) (e 3))) ((e 4) - (tk_mul (tk_div (e 3) ((e 2) + v)) (e 3)))) 4), .long (z - (e 0)), .long ((tk_mv e ((e 0) + (tk_mul (tk_div (e 2) ((e 2) + v)) (z - (e 0)))) ((e 1) + (tk_mul (tk_div (e 3) ((e 2) + v)) (z - (e 0)))) ((e 2) - (tk_mul (tk_div (e 2) ((e 2) + v)) (e 2))) ((e 3) - (tk_mul (tk_div (e 2) ((e 2) + v)) (e 3))) ((e 4) - (tk_mul (tk_div (e 3) ((e 2) + v)) (e 3)))) 6), .long ((tk_mv e ((e 0) + (tk_mul (tk_div (e 2) ((e 2) + v)) (z - (e 0)))) ((e 1) + (tk_mul (tk_div (e 3) ((e 2) + v)) (z - (e 0)))) ((e 2) - (tk_mul (tk_div (e 2) ((e 2) + v)) (e 2))) ((e 3) - (tk_mul (tk_div (e 2) ((e 2) + v)) (e 3))) ((e 4) - (tk_mul (tk_div (e 3) ((e 2) + v)) (e 3)))) 7)]))]) H := hP
                        have hD : va_D A ([(h0, .inr (0, [.long ((tk_mv e ((e 0) + (tk_mul (tk_div (e 2) ((e 2) + v)) (z - (e 0)))) ((e 1) + (tk_mul (tk_div (e 3) ((e 2) + v)) (z - (e 0)))) ((e 2) - (tk_mul (tk_div (e 2) ((e 2) + v)) (e 2))) ((e 3) - (tk_mul (tk_div (e 2) ((e 2) + v)) (e 3))) ((e 4) - (tk_mul (tk_div (e 3) ((e 2) + v)) (e 3)))) 0), .long ((tk_mv e ((e 0) + (tk_mul (tk_div (e 2) ((e 2) + v)) (z - (e 0)))) ((e 1) + (tk_mul (tk_div (e 3) ((e 2) + v)) (z - (e 0)))) ((e 2) - (tk_mul (tk_div (e 2) ((e 2) + v)) (e 2))) ((e 3) - (tk_mul (tk_div (e 2) ((e 2) + v)) (e 3))) ((e 4) - (tk_mul (tk_div (e 3) ((e 2) + v)) (e 3)))) 1), .long ((tk_mv e ((e 0) + (tk_mul (tk_div (e 2) ((e 2) + v)) (z - (e 0)))) ((e 1) + (tk_mul (tk_div (e 3) ((e 2) + v)) (z - (e 0)))) ((e 2) - (tk_mul (tk_div (e 2) ((e 2) + v)) (e 2))) ((e 3) - (tk_mul (tk_div (e 2) ((e 2) + v)) (e 3))) ((e 4) - (tk_mul (tk_div (e 3) ((e 2) + v)) (e 3)))) 2), .long ((tk_mv e ((e 0) + (tk_mul (tk_div (e 2) ((e 2) + v)) (z - (e 0)))) ((e 1) + (tk_mul (tk_div (e 3) ((e 2) + v)) (z - (e 0)))) ((e 2) - (tk_mul (tk_div (e 2) ((e 2) + v)) (e 2))) ((e 3) - (tk_mul (tk_div (e 2) ((e 2) + v)) (e 3))) ((e 4) - (tk_mul (tk_div (e 3) ((e 2) + v)) (e 3)))) 3), .long ((tk_mv e ((e 0) + (tk_mul (tk_div (e 2) ((e 2) + v)) (z - (e 0)))) ((e 1) + (tk_mul (tk_div (e 3) ((e 2) + v)) (z - (e 0)))) ((e 2) - (tk_mul (tk_div (e 2) ((e 2) + v)) (e 2))) ((e 3) - (tk_mul (tk_div (e 2) ((e 2) + v)) (e 3))) ((e 4) - (tk_mul (tk_div (e 3) ((e 2) + v)) (e 3)))) 4), .long (z - (e 0)), .long ((tk_mv e ((e 0) + (tk_mul (tk_div (e 2) ((e 2) + v)) (z - (e 0)))) ((e 1) + (tk_mul (tk_div (e 3) ((e 2) + v)) (z - (e 0)))) ((e 2) - (tk_mul (tk_div (e 2) ((e 2) + v)) (e 2))) ((e 3) - (tk_mul (tk_div (e 2) ((e 2) + v)) (e 3))) ((e 4) - (tk_mul (tk_div (e 3) ((e 2) + v)) (e 3)))) 6), .long ((tk_mv e ((e 0) + (tk_mul (tk_div (e 2) ((e 2) + v)) (z - (e 0)))) ((e 1) + (tk_mul (tk_div (e 3) ((e 2) + v)) (z - (e 0)))) ((e 2) - (tk_mul (tk_div (e 2) ((e 2) + v)) (e 2))) ((e 3) - (tk_mul (tk_div (e 2) ((e 2) + v)) (e 3))) ((e 4) - (tk_mul (tk_div (e 3) ((e 2) + v)) (e 3)))) 7)]))]) := hD
                        refine lv_aload_n hx hb dX0_take_227 rfl (lv_at hl 8 rfl) ?_
                        refine lv_lload hx hb dX0_take_228 (lv_at hl 2 rfl) ?_
                        refine va_put (D := D) (ci := 0) (v := .long (tk_div (e 2) ((e 2) + v))) (ty := .long) (C := RX0) (T := TX0) (N := 8) hx hb hts izX0_take_0 tyX0 tyX0_ok nmX0 hown hK hP hD hS 0 rfl rfl 6 (by decide) (hm 9 (.fieldLink RX0 34 "TankFilter$Estimate" "levelGain" "J") rfl) (fun _ h9 => h9) rfl (by decide +kernel) rfl rfl (Nat.le_of_ble_eq_true rfl) dX0_take_230 (fun H locs hP hD hS => ?_)
                        have hP : va_P D vwCl ([(h0, .inr (0, [.long ((tk_mv e ((e 0) + (tk_mul (tk_div (e 2) ((e 2) + v)) (z - (e 0)))) ((e 1) + (tk_mul (tk_div (e 3) ((e 2) + v)) (z - (e 0)))) ((e 2) - (tk_mul (tk_div (e 2) ((e 2) + v)) (e 2))) ((e 3) - (tk_mul (tk_div (e 2) ((e 2) + v)) (e 3))) ((e 4) - (tk_mul (tk_div (e 3) ((e 2) + v)) (e 3)))) 0), .long ((tk_mv e ((e 0) + (tk_mul (tk_div (e 2) ((e 2) + v)) (z - (e 0)))) ((e 1) + (tk_mul (tk_div (e 3) ((e 2) + v)) (z - (e 0)))) ((e 2) - (tk_mul (tk_div (e 2) ((e 2) + v)) (e 2))) ((e 3) - (tk_mul (tk_div (e 2) ((e 2) + v)) (e 3))) ((e 4) - (tk_mul (tk_div (e 3) ((e 2) + v)) (e 3)))) 1), .long ((tk_mv e ((e 0) + (tk_mul (tk_div (e 2) ((e 2) + v)) (z - (e 0)))) ((e 1) + (tk_mul (tk_div (e 3) ((e 2) + v)) (z - (e 0)))) ((e 2) - (tk_mul (tk_div (e 2) ((e 2) + v)) (e 2))) ((e 3) - (tk_mul (tk_div (e 2) ((e 2) + v)) (e 3))) ((e 4) - (tk_mul (tk_div (e 3) ((e 2) + v)) (e 3)))) 2), .long ((tk_mv e ((e 0) + (tk_mul (tk_div (e 2) ((e 2) + v)) (z - (e 0)))) ((e 1) + (tk_mul (tk_div (e 3) ((e 2) + v)) (z - (e 0)))) ((e 2) - (tk_mul (tk_div (e 2) ((e 2) + v)) (e 2))) ((e 3) - (tk_mul (tk_div (e 2) ((e 2) + v)) (e 3))) ((e 4) - (tk_mul (tk_div (e 3) ((e 2) + v)) (e 3)))) 3), .long ((tk_mv e ((e 0) + (tk_mul (tk_div (e 2) ((e 2) + v)) (z - (e 0)))) ((e 1) + (tk_mul (tk_div (e 3) ((e 2) + v)) (z - (e 0)))) ((e 2) - (tk_mul (tk_div (e 2) ((e 2) + v)) (e 2))) ((e 3) - (tk_mul (tk_div (e 2) ((e 2) + v)) (e 3))) ((e 4) - (tk_mul (tk_div (e 3) ((e 2) + v)) (e 3)))) 4), .long (z - (e 0)), .long (tk_div (e 2) ((e 2) + v)), .long ((tk_mv e ((e 0) + (tk_mul (tk_div (e 2) ((e 2) + v)) (z - (e 0)))) ((e 1) + (tk_mul (tk_div (e 3) ((e 2) + v)) (z - (e 0)))) ((e 2) - (tk_mul (tk_div (e 2) ((e 2) + v)) (e 2))) ((e 3) - (tk_mul (tk_div (e 2) ((e 2) + v)) (e 3))) ((e 4) - (tk_mul (tk_div (e 3) ((e 2) + v)) (e 3)))) 7)]))]) H := hP
                        have hD : va_D A ([(h0, .inr (0, [.long ((tk_mv e ((e 0) + (tk_mul (tk_div (e 2) ((e 2) + v)) (z - (e 0)))) ((e 1) + (tk_mul (tk_div (e 3) ((e 2) + v)) (z - (e 0)))) ((e 2) - (tk_mul (tk_div (e 2) ((e 2) + v)) (e 2))) ((e 3) - (tk_mul (tk_div (e 2) ((e 2) + v)) (e 3))) ((e 4) - (tk_mul (tk_div (e 3) ((e 2) + v)) (e 3)))) 0), .long ((tk_mv e ((e 0) + (tk_mul (tk_div (e 2) ((e 2) + v)) (z - (e 0)))) ((e 1) + (tk_mul (tk_div (e 3) ((e 2) + v)) (z - (e 0)))) ((e 2) - (tk_mul (tk_div (e 2) ((e 2) + v)) (e 2))) ((e 3) - (tk_mul (tk_div (e 2) ((e 2) + v)) (e 3))) ((e 4) - (tk_mul (tk_div (e 3) ((e 2) + v)) (e 3)))) 1), .long ((tk_mv e ((e 0) + (tk_mul (tk_div (e 2) ((e 2) + v)) (z - (e 0)))) ((e 1) + (tk_mul (tk_div (e 3) ((e 2) + v)) (z - (e 0)))) ((e 2) - (tk_mul (tk_div (e 2) ((e 2) + v)) (e 2))) ((e 3) - (tk_mul (tk_div (e 2) ((e 2) + v)) (e 3))) ((e 4) - (tk_mul (tk_div (e 3) ((e 2) + v)) (e 3)))) 2), .long ((tk_mv e ((e 0) + (tk_mul (tk_div (e 2) ((e 2) + v)) (z - (e 0)))) ((e 1) + (tk_mul (tk_div (e 3) ((e 2) + v)) (z - (e 0)))) ((e 2) - (tk_mul (tk_div (e 2) ((e 2) + v)) (e 2))) ((e 3) - (tk_mul (tk_div (e 2) ((e 2) + v)) (e 3))) ((e 4) - (tk_mul (tk_div (e 3) ((e 2) + v)) (e 3)))) 3), .long ((tk_mv e ((e 0) + (tk_mul (tk_div (e 2) ((e 2) + v)) (z - (e 0)))) ((e 1) + (tk_mul (tk_div (e 3) ((e 2) + v)) (z - (e 0)))) ((e 2) - (tk_mul (tk_div (e 2) ((e 2) + v)) (e 2))) ((e 3) - (tk_mul (tk_div (e 2) ((e 2) + v)) (e 3))) ((e 4) - (tk_mul (tk_div (e 3) ((e 2) + v)) (e 3)))) 4), .long (z - (e 0)), .long (tk_div (e 2) ((e 2) + v)), .long ((tk_mv e ((e 0) + (tk_mul (tk_div (e 2) ((e 2) + v)) (z - (e 0)))) ((e 1) + (tk_mul (tk_div (e 3) ((e 2) + v)) (z - (e 0)))) ((e 2) - (tk_mul (tk_div (e 2) ((e 2) + v)) (e 2))) ((e 3) - (tk_mul (tk_div (e 2) ((e 2) + v)) (e 3))) ((e 4) - (tk_mul (tk_div (e 3) ((e 2) + v)) (e 3)))) 7)]))]) := hD
                        refine lv_aload_n hx hb dX0_take_233 rfl (lv_at hl 8 rfl) ?_
                        refine lv_lload hx hb dX0_take_234 (lv_at hl 1 rfl) ?_
                        refine va_put (D := D) (ci := 0) (v := .long (tk_div (e 3) ((e 2) + v))) (ty := .long) (C := RX0) (T := TX0) (N := 8) hx hb hts izX0_take_0 tyX0 tyX0_ok nmX0 hown hK hP hD hS 0 rfl rfl 7 (by decide) (hm 10 (.fieldLink RX0 37 "TankFilter$Estimate" "flowGain" "J") rfl) (fun _ h9 => h9) rfl (by decide +kernel) rfl rfl (Nat.le_of_ble_eq_true rfl) dX0_take_236 (fun H locs hP hD hS => ?_)
                        have hP : va_P D vwCl ([(h0, .inr (0, [.long ((tk_mv e ((e 0) + (tk_mul (tk_div (e 2) ((e 2) + v)) (z - (e 0)))) ((e 1) + (tk_mul (tk_div (e 3) ((e 2) + v)) (z - (e 0)))) ((e 2) - (tk_mul (tk_div (e 2) ((e 2) + v)) (e 2))) ((e 3) - (tk_mul (tk_div (e 2) ((e 2) + v)) (e 3))) ((e 4) - (tk_mul (tk_div (e 3) ((e 2) + v)) (e 3)))) 0), .long ((tk_mv e ((e 0) + (tk_mul (tk_div (e 2) ((e 2) + v)) (z - (e 0)))) ((e 1) + (tk_mul (tk_div (e 3) ((e 2) + v)) (z - (e 0)))) ((e 2) - (tk_mul (tk_div (e 2) ((e 2) + v)) (e 2))) ((e 3) - (tk_mul (tk_div (e 2) ((e 2) + v)) (e 3))) ((e 4) - (tk_mul (tk_div (e 3) ((e 2) + v)) (e 3)))) 1), .long ((tk_mv e ((e 0) + (tk_mul (tk_div (e 2) ((e 2) + v)) (z - (e 0)))) ((e 1) + (tk_mul (tk_div (e 3) ((e 2) + v)) (z - (e 0)))) ((e 2) - (tk_mul (tk_div (e 2) ((e 2) + v)) (e 2))) ((e 3) - (tk_mul (tk_div (e 2) ((e 2) + v)) (e 3))) ((e 4) - (tk_mul (tk_div (e 3) ((e 2) + v)) (e 3)))) 2), .long ((tk_mv e ((e 0) + (tk_mul (tk_div (e 2) ((e 2) + v)) (z - (e 0)))) ((e 1) + (tk_mul (tk_div (e 3) ((e 2) + v)) (z - (e 0)))) ((e 2) - (tk_mul (tk_div (e 2) ((e 2) + v)) (e 2))) ((e 3) - (tk_mul (tk_div (e 2) ((e 2) + v)) (e 3))) ((e 4) - (tk_mul (tk_div (e 3) ((e 2) + v)) (e 3)))) 3), .long ((tk_mv e ((e 0) + (tk_mul (tk_div (e 2) ((e 2) + v)) (z - (e 0)))) ((e 1) + (tk_mul (tk_div (e 3) ((e 2) + v)) (z - (e 0)))) ((e 2) - (tk_mul (tk_div (e 2) ((e 2) + v)) (e 2))) ((e 3) - (tk_mul (tk_div (e 2) ((e 2) + v)) (e 3))) ((e 4) - (tk_mul (tk_div (e 3) ((e 2) + v)) (e 3)))) 4), .long (z - (e 0)), .long (tk_div (e 2) ((e 2) + v)), .long (tk_div (e 3) ((e 2) + v))]))]) H := hP
                        have hD : va_D A ([(h0, .inr (0, [.long ((tk_mv e ((e 0) + (tk_mul (tk_div (e 2) ((e 2) + v)) (z - (e 0)))) ((e 1) + (tk_mul (tk_div (e 3) ((e 2) + v)) (z - (e 0)))) ((e 2) - (tk_mul (tk_div (e 2) ((e 2) + v)) (e 2))) ((e 3) - (tk_mul (tk_div (e 2) ((e 2) + v)) (e 3))) ((e 4) - (tk_mul (tk_div (e 3) ((e 2) + v)) (e 3)))) 0), .long ((tk_mv e ((e 0) + (tk_mul (tk_div (e 2) ((e 2) + v)) (z - (e 0)))) ((e 1) + (tk_mul (tk_div (e 3) ((e 2) + v)) (z - (e 0)))) ((e 2) - (tk_mul (tk_div (e 2) ((e 2) + v)) (e 2))) ((e 3) - (tk_mul (tk_div (e 2) ((e 2) + v)) (e 3))) ((e 4) - (tk_mul (tk_div (e 3) ((e 2) + v)) (e 3)))) 1), .long ((tk_mv e ((e 0) + (tk_mul (tk_div (e 2) ((e 2) + v)) (z - (e 0)))) ((e 1) + (tk_mul (tk_div (e 3) ((e 2) + v)) (z - (e 0)))) ((e 2) - (tk_mul (tk_div (e 2) ((e 2) + v)) (e 2))) ((e 3) - (tk_mul (tk_div (e 2) ((e 2) + v)) (e 3))) ((e 4) - (tk_mul (tk_div (e 3) ((e 2) + v)) (e 3)))) 2), .long ((tk_mv e ((e 0) + (tk_mul (tk_div (e 2) ((e 2) + v)) (z - (e 0)))) ((e 1) + (tk_mul (tk_div (e 3) ((e 2) + v)) (z - (e 0)))) ((e 2) - (tk_mul (tk_div (e 2) ((e 2) + v)) (e 2))) ((e 3) - (tk_mul (tk_div (e 2) ((e 2) + v)) (e 3))) ((e 4) - (tk_mul (tk_div (e 3) ((e 2) + v)) (e 3)))) 3), .long ((tk_mv e ((e 0) + (tk_mul (tk_div (e 2) ((e 2) + v)) (z - (e 0)))) ((e 1) + (tk_mul (tk_div (e 3) ((e 2) + v)) (z - (e 0)))) ((e 2) - (tk_mul (tk_div (e 2) ((e 2) + v)) (e 2))) ((e 3) - (tk_mul (tk_div (e 2) ((e 2) + v)) (e 3))) ((e 4) - (tk_mul (tk_div (e 3) ((e 2) + v)) (e 3)))) 4), .long (z - (e 0)), .long (tk_div (e 2) ((e 2) + v)), .long (tk_div (e 3) ((e 2) + v))]))]) := hD
                        refine lv_iconst (v := 1) hx hb dX0_take_239 (by decide) ?_
                        exact W.iret (v := 1) hx hb hr (fun t ht hW => ⟨⟨1, cq_e e (e 2) (e 3) (e 2) (e 0) z v, rfl, Or.inr (Or.inl ⟨(fun y => cq_rej_1 c_44 ((co_rej0 c_1).mp y)), by rw [co_ok0 c_1, cq_ok, p_47, p_49, p_56]; rfl, rfl, (co_e0 c_1).symm⟩), KB.of hAe (by rw [ht]; exact hP) hD⟩, hS.F ht⟩) hS.2.2 dX0_take_240
                      · exact absurd c_57 (by decide)
                    · have hP : va_P D vwCl ([(h0, .inr (0, tk_ev e))]) H := hP
                      have hD : va_D A ([(h0, .inr (0, tk_ev e))]) := hD
                      refine lv_istore (lv' := [(21, .int 0), (19, .long (tk_div (e 3) ((e 2) + v))), (17, .long (tk_div (e 2) ((e 2) + v))), (15, .long ((e 2) + v)), (13, .long (z - (e 0))), (11, .long (e 3)), (9, .long (e 2)), (8, .int 1), (0, .ref h0), (1, .long z), (3, .int kd), (4, .long v), (6, .long g)]) hx hb dX0_take_211 hl (by decide) rfl (fun ls hl => ?_)
                      refine lv_iload hx hb dX0_take_213 (lv_at hl 0 rfl) ?_
                      refine lv_if_ne (tgt := 221) hx hb dX0_take_215 (by decide) (fun c_58 => ?_) (fun c_58 => ?_)
                      · exact absurd c_58 (by decide)
                      · skip
                        refine lv_ldc (v := -2000000004) hx hb hown (hm 6 (.constant RX0 58 (-2000000004)) rfl) dX0_take_218 ?_
                        exact W.iret (v := (-2000000004)) hx hb hr (fun t ht hW => ⟨⟨(-2000000004), e, rfl, Or.inr (Or.inr ⟨(fun y => cq_rej_1 c_44 ((co_rej0 c_1).mp y)), by rw [co_ok0 c_1, cq_ok, p_47, p_49, p_56]; rfl, rfl, rfl⟩), KB.of hAe (by rw [ht]; exact hP) hD⟩, hS.F ht⟩) hS.2.2 dX0_take_220
                  · exact absurd c_50 (by decide)
                · have hP : va_P D vwCl ([(h0, .inr (0, tk_ev e))]) H := hP
                  have hD : va_D A ([(h0, .inr (0, tk_ev e))]) := hD
                  refine lv_if_ne (tgt := 147) hx hb dX0_take_141 (by decide) (fun c_59 => ?_) (fun c_59 => ?_)
                  · exact absurd c_59 (by decide)
                  · skip
                    refine lv_ldc (v := -2000000004) hx hb hown (hm 6 (.constant RX0 58 (-2000000004)) rfl) dX0_take_144 ?_
                    exact W.iret (v := (-2000000004)) hx hb hr (fun t ht hW => ⟨⟨(-2000000004), e, rfl, Or.inr (Or.inr ⟨(fun y => cq_rej_1 c_44 ((co_rej0 c_1).mp y)), by rw [co_ok0 c_1, cq_ok, p_47, p_49]; rfl, rfl, rfl⟩), KB.of hAe (by rw [ht]; exact hP) hD⟩, hS.F ht⟩) hS.2.2 dX0_take_146
            · have hP : va_P D vwCl ([(h0, .inr (0, tk_ev e))]) H := hP
              have hD : va_D A ([(h0, .inr (0, tk_ev e))]) := hD
              refine lv_if_eq (tgt := 144) hx hb dX0_take_133 (by decide) (fun c_60 => ?_) (fun c_60 => ?_)
              · skip
                refine lv_ldc (v := -2000000004) hx hb hown (hm 6 (.constant RX0 58 (-2000000004)) rfl) dX0_take_144 ?_
                exact W.iret (v := (-2000000004)) hx hb hr (fun t ht hW => ⟨⟨(-2000000004), e, rfl, Or.inr (Or.inr ⟨(fun y => cq_rej_1 c_44 ((co_rej0 c_1).mp y)), by rw [co_ok0 c_1, cq_ok, p_47]; rfl, rfl, rfl⟩), KB.of hAe (by rw [ht]; exact hP) hD⟩, hS.F ht⟩) hS.2.2 dX0_take_146
              · exact absurd c_60 (by decide)
          · have c_44 := mt (lg_cmp_eq _ _).mpr c_44
            refine lv_lload hx hb dX0_take_84 (lv_at hl 1 rfl) ?_
            refine lv_lload hx hb dX0_take_86 (lv_at hl 1 rfl) ?_
            refine lv_lmul hx hb dX0_take_88 ?_
            refine lv_lload hx hb dX0_take_89 (lv_at hl 9 rfl) ?_
            refine lv_lload hx hb dX0_take_91 (lv_at hl 0 rfl) ?_
            refine lv_lmul hx hb dX0_take_93 ?_
            refine lv_ldc2 (v := 4096) hx hb hown (hm 4 (.constantLong RX0 18 (4096)) rfl) dX0_take_94 ?_
            refine lv_lmul hx hb dX0_take_97 ?_
            refine W.lcmp hx hb dX0_take_98 ?_
            refine lv_if_le (tgt := 110) hx hb dX0_take_99 (by decide) (fun c_61 => ?_) (fun c_61 => ?_)
            · have c_61 := (lg_cmp_le _ _).mp c_61
              refine lv_lload hx hb dX0_take_110 (lv_at hl 3 rfl) ?_
              refine lv_lload hx hb dX0_take_112 (lv_at hl 0 rfl) ?_
              refine kc_l (wc := []) (wr := [(h0, .inr (0, tk_ev e))]) (va_runSN (As := [.long (e 2), .long ((e 2) + v)]) (rest := []) ⟨hx, hb, hml, hown, hts⟩ (k_X3_dividedBy l D cI cM cJ H.size (e 2) ((e 2) + v) ((co_p0 c_1) ▸ hs)) ⟨va_cnB 2 hts gX0_take_X3_dividedBy_n50 rfl rfl rfl (hN.at 37 rfl) (hm 17 (.initialized RX3) rfl) (by decide +kernel) ⟨Nat.le_of_ble_eq_true rfl, Nat.le_of_ble_eq_true rfl⟩, (hm 16 (.static yX3_dividedBy) rfl), trivial⟩ (kp_preS hN hK hP hD) rfl rfl hl.1 rfl (lv_room (Nat.le_of_ble_eq_true rfl)) dX0_take_114 ⟨Nat.le_of_ble_eq_true rfl, Nat.le_of_ble_eq_true rfl⟩) hP hD hS hA (fun r_62 u_62 H locs p_62 hP hD hS => ?_)
              obtain rfl : r_62 = tk_div (e 2) ((e 2) + v) := p_62
              have hP : va_P D vwCl ([(h0, .inr (0, tk_ev e))]) H := hP
              have hD : va_D A ([(h0, .inr (0, tk_ev e))]) := hD
              refine lv_lstore (lv' := [(17, .long (tk_div (e 2) ((e 2) + v))), (15, .long ((e 2) + v)), (13, .long (z - (e 0))), (11, .long (e 3)), (9, .long (e 2)), (8, .int 1), (0, .ref h0), (1, .long z), (3, .int kd), (4, .long v), (6, .long g)]) hx hb dX0_take_117 hl (by decide) rfl (fun ls hl => ?_)
              refine lv_lload hx hb dX0_take_119 (lv_at hl 3 rfl) ?_
              refine lv_lload hx hb dX0_take_121 (lv_at hl 1 rfl) ?_
              refine kc_l (wc := []) (wr := [(h0, .inr (0, tk_ev e))]) (va_runSN (As := [.long (e 3), .long ((e 2) + v)]) (rest := []) ⟨hx, hb, hml, hown, hts⟩ (k_X3_dividedBy l D cI cM cJ H.size (e 3) ((e 2) + v) ((co_p0 c_1) ▸ hs)) ⟨va_cnB 2 hts gX0_take_X3_dividedBy_n50 rfl rfl rfl (hN.at 37 rfl) (hm 17 (.initialized RX3) rfl) (by decide +kernel) ⟨Nat.le_of_ble_eq_true rfl, Nat.le_of_ble_eq_true rfl⟩, (hm 16 (.static yX3_dividedBy) rfl), trivial⟩ (kp_preS hN hK hP hD) rfl rfl hl.1 rfl (lv_room (Nat.le_of_ble_eq_true rfl)) dX0_take_123 ⟨Nat.le_of_ble_eq_true rfl, Nat.le_of_ble_eq_true rfl⟩) hP hD hS hA (fun r_63 u_63 H locs p_63 hP hD hS => ?_)
              obtain rfl : r_63 = tk_div (e 3) ((e 2) + v) := p_63
              have hP : va_P D vwCl ([(h0, .inr (0, tk_ev e))]) H := hP
              have hD : va_D A ([(h0, .inr (0, tk_ev e))]) := hD
              refine lv_lstore (lv' := [(19, .long (tk_div (e 3) ((e 2) + v))), (17, .long (tk_div (e 2) ((e 2) + v))), (15, .long ((e 2) + v)), (13, .long (z - (e 0))), (11, .long (e 3)), (9, .long (e 2)), (8, .int 1), (0, .ref h0), (1, .long z), (3, .int kd), (4, .long v), (6, .long g)]) hx hb dX0_take_126 hl (by decide) rfl (fun ls hl => ?_)
              refine lv_lload hx hb dX0_take_128 (lv_at hl 1 rfl) ?_
              refine kc_i (wc := []) (wr := [(h0, .inr (0, tk_ev e))]) (va_runSN (As := [.long (tk_div (e 2) ((e 2) + v))]) (rest := []) ⟨hx, hb, hml, hown, hts⟩ (k_X3_isInLimit l D cI cM cJ H.size (tk_div (e 2) ((e 2) + v))) ⟨va_cnB 1 hts gX0_take_X3_isInLimit_n54 rfl rfl rfl (hN.at 34 rfl) (hm 17 (.initialized RX3) rfl) (by decide +kernel) ⟨Nat.le_of_ble_eq_true rfl, Nat.le_of_ble_eq_true rfl⟩, (hm 25 (.static yX3_isInLimit) rfl), trivial⟩ (kp_preS hN hK hP hD) rfl rfl hl.1 rfl (lv_room (Nat.le_of_ble_eq_true rfl)) dX0_take_130 ⟨Nat.le_of_ble_eq_true rfl, Nat.le_of_ble_eq_true rfl⟩) hP hD hS hA (fun r_64 u_64 H locs p_64 hP hD hS => ?_)
              rcases p_64 with ⟨p_64, rfl⟩ | ⟨p_64, rfl⟩
              · have hP : va_P D vwCl ([(h0, .inr (0, tk_ev e))]) H := hP
                have hD : va_D A ([(h0, .inr (0, tk_ev e))]) := hD
                refine lv_if_eq (tgt := 144) hx hb dX0_take_133 (by decide) (fun c_65 => ?_) (fun c_65 => ?_)
                · exact absurd c_65 (by decide)
                · skip
                  refine lv_lload hx hb dX0_take_136 (lv_at hl 0 rfl) ?_
                  refine kc_i (wc := []) (wr := [(h0, .inr (0, tk_ev e))]) (va_runSN (As := [.long (tk_div (e 3) ((e 2) + v))]) (rest := []) ⟨hx, hb, hml, hown, hts⟩ (k_X3_isInLimit l D cI cM cJ H.size (tk_div (e 3) ((e 2) + v))) ⟨va_cnB 1 hts gX0_take_X3_isInLimit_n54 rfl rfl rfl (hN.at 34 rfl) (hm 17 (.initialized RX3) rfl) (by decide +kernel) ⟨Nat.le_of_ble_eq_true rfl, Nat.le_of_ble_eq_true rfl⟩, (hm 25 (.static yX3_isInLimit) rfl), trivial⟩ (kp_preS hN hK hP hD) rfl rfl hl.1 rfl (lv_room (Nat.le_of_ble_eq_true rfl)) dX0_take_138 ⟨Nat.le_of_ble_eq_true rfl, Nat.le_of_ble_eq_true rfl⟩) hP hD hS hA (fun r_66 u_66 H locs p_66 hP hD hS => ?_)
                  rcases p_66 with ⟨p_66, rfl⟩ | ⟨p_66, rfl⟩
                  · have hP : va_P D vwCl ([(h0, .inr (0, tk_ev e))]) H := hP
                    have hD : va_D A ([(h0, .inr (0, tk_ev e))]) := hD
                    refine lv_if_ne (tgt := 147) hx hb dX0_take_141 (by decide) (fun c_67 => ?_) (fun c_67 => ?_)
                    · skip
                      refine lv_aload_n hx hb dX0_take_147 rfl (lv_at hl 7 rfl) ?_
                      refine lv_aload_n hx hb dX0_take_148 rfl (lv_at hl 7 rfl) ?_
                      refine va_get (D := D) (ci := 0) (v := .long (e 0)) (C := RX0) (T := TX0) (N := 8) hx hb hts izX0_take_0 hown hK hP 0 rfl rfl 0 (by decide) (hm 7 (.fieldLink RX0 9 "TankFilter$Estimate" "level" "J") rfl) (fun _ h9 => h9) rfl dX0_take_149 ?_
                      refine lv_lload hx hb dX0_take_152 (lv_at hl 1 rfl) ?_
                      refine lv_lload hx hb dX0_take_154 (lv_at hl 3 rfl) ?_
                      refine kc_l (wc := []) (wr := [(h0, .inr (0, tk_ev e))]) (va_runSN (As := [.long (tk_div (e 2) ((e 2) + v)), .long (z - (e 0))]) (rest := [.long (e 0), .ref h0]) ⟨hx, hb, hml, hown, hts⟩ (k_X3_times l D cI cM cJ H.size (tk_div (e 2) ((e 2) + v)) (z - (e 0))) ⟨va_cnB 2 hts gX0_take_X3_times_n59 rfl rfl rfl (hN.at 38 rfl) (hm 17 (.initialized RX3) rfl) (by decide +kernel) ⟨Nat.le_of_ble_eq_true rfl, Nat.le_of_ble_eq_true rfl⟩, (hm 29 (.static yX3_times) rfl), trivial⟩ (kp_preS hN hK hP hD) rfl rfl hl.1 rfl (lv_room (Nat.le_of_ble_eq_true rfl)) dX0_take_156 ⟨Nat.le_of_ble_eq_true rfl, Nat.le_of_ble_eq_true rfl⟩) hP hD hS hA (fun r_68 u_68 H locs p_68 hP hD hS => ?_)
                      obtain rfl : r_68 = tk_mul (tk_div (e 2) ((e 2) + v)) (z - (e 0)) := p_68
                      have hP : va_P D vwCl ([(h0, .inr (0, tk_ev e))]) H := hP
                      have hD : va_D A ([(h0, .inr (0, tk_ev e))]) := hD
                      refine lv_ladd hx hb dX0_take_159 ?_
                      refine lv_aload_n hx hb dX0_take_160 rfl (lv_at hl 7 rfl) ?_
                      refine va_get (D := D) (ci := 0) (v := .long (e 1)) (C := RX0) (T := TX0) (N := 8) hx hb hts izX0_take_0 hown hK hP 0 rfl rfl 1 (by decide) (hm 8 (.fieldLink RX0 15 "TankFilter$Estimate" "flow" "J") rfl) (fun _ h9 => h9) rfl dX0_take_161 ?_
                      refine lv_lload hx hb dX0_take_164 (lv_at hl 0 rfl) ?_
                      refine lv_lload hx hb dX0_take_166 (lv_at hl 3 rfl) ?_
                      refine kc_l (wc := []) (wr := [(h0, .inr (0, tk_ev e))]) (va_runSN (As := [.long (tk_div (e 3) ((e 2) + v)), .long (z - (e 0))]) (rest := [.long (e 1), .long ((e 0) + (tk_mul (tk_div (e 2) ((e 2) + v)) (z - (e 0)))), .ref h0]) ⟨hx, hb, hml, hown, hts⟩ (k_X3_times l D cI cM cJ H.size (tk_div (e 3) ((e 2) + v)) (z - (e 0))) ⟨va_cnB 2 hts gX0_take_X3_times_n59 rfl rfl rfl (hN.at 38 rfl) (hm 17 (.initialized RX3) rfl) (by decide +kernel) ⟨Nat.le_of_ble_eq_true rfl, Nat.le_of_ble_eq_true rfl⟩, (hm 29 (.static yX3_times) rfl), trivial⟩ (kp_preS hN hK hP hD) rfl rfl hl.1 rfl (lv_room (Nat.le_of_ble_eq_true rfl)) dX0_take_168 ⟨Nat.le_of_ble_eq_true rfl, Nat.le_of_ble_eq_true rfl⟩) hP hD hS hA (fun r_69 u_69 H locs p_69 hP hD hS => ?_)
                      obtain rfl : r_69 = tk_mul (tk_div (e 3) ((e 2) + v)) (z - (e 0)) := p_69
                      have hP : va_P D vwCl ([(h0, .inr (0, tk_ev e))]) H := hP
                      have hD : va_D A ([(h0, .inr (0, tk_ev e))]) := hD
                      refine lv_ladd hx hb dX0_take_171 ?_
                      refine lv_aload_n hx hb dX0_take_172 rfl (lv_at hl 7 rfl) ?_
                      refine va_get (D := D) (ci := 0) (v := .long (e 2)) (C := RX0) (T := TX0) (N := 8) hx hb hts izX0_take_0 hown hK hP 0 rfl rfl 2 (by decide) (hm 1 (.fieldLink RX0 20 "TankFilter$Estimate" "levelVariance" "J") rfl) (fun _ h9 => h9) rfl dX0_take_173 ?_
                      refine lv_lload hx hb dX0_take_176 (lv_at hl 1 rfl) ?_
                      refine lv_lload hx hb dX0_take_178 (lv_at hl 5 rfl) ?_
                      refine kc_l (wc := []) (wr := [(h0, .inr (0, tk_ev e))]) (va_runSN (As := [.long (tk_div (e 2) ((e 2) + v)), .long (e 2)]) (rest := [.long (e 2), .long ((e 1) + (tk_mul (tk_div (e 3) ((e 2) + v)) (z - (e 0)))), .long ((e 0) + (tk_mul (tk_div (e 2) ((e 2) + v)) (z - (e 0)))), .ref h0]) ⟨hx, hb, hml, hown, hts⟩ (k_X3_times l D cI cM cJ H.size (tk_div (e 2) ((e 2) + v)) (e 2)) ⟨va_cnB 2 hts gX0_take_X3_times_n59 rfl rfl rfl (hN.at 38 rfl) (hm 17 (.initialized RX3) rfl) (by decide +kernel) ⟨Nat.le_of_ble_eq_true rfl, Nat.le_of_ble_eq_true rfl⟩, (hm 29 (.static yX3_times) rfl), trivial⟩ (kp_preS hN hK hP hD) rfl rfl hl.1 rfl (lv_room (Nat.le_of_ble_eq_true rfl)) dX0_take_180 ⟨Nat.le_of_ble_eq_true rfl, Nat.le_of_ble_eq_true rfl⟩) hP hD hS hA (fun r_70 u_70 H locs p_70 hP hD hS => ?_)
                      obtain rfl : r_70 = tk_mul (tk_div (e 2) ((e 2) + v)) (e 2) := p_70
                      have hP : va_P D vwCl ([(h0, .inr (0, tk_ev e))]) H := hP
                      have hD : va_D A ([(h0, .inr (0, tk_ev e))]) := hD
                      refine lv_lsub hx hb dX0_take_183 ?_
                      refine lv_aload_n hx hb dX0_take_184 rfl (lv_at hl 7 rfl) ?_
                      refine va_get (D := D) (ci := 0) (v := .long (e 3)) (C := RX0) (T := TX0) (N := 8) hx hb hts izX0_take_0 hown hK hP 0 rfl rfl 3 (by decide) (hm 2 (.fieldLink RX0 23 "TankFilter$Estimate" "covariance" "J") rfl) (fun _ h9 => h9) rfl dX0_take_185 ?_
                      refine lv_lload hx hb dX0_take_188 (lv_at hl 1 rfl) ?_
                      refine lv_lload hx hb dX0_take_190 (lv_at hl 4 rfl) ?_
                      refine kc_l (wc := []) (wr := [(h0, .inr (0, tk_ev e))]) (kw_runSN 16 2 (As := [.long (tk_div (e 2) ((e 2) + v)), .long (e 3)]) (rest := [.long (e 3), .long ((e 2) - (tk_mul (tk_div (e 2) ((e 2) + v)) (e 2))), .long ((e 1) + (tk_mul (tk_div (e 3) ((e 2) + v)) (z - (e 0)))), .long ((e 0) + (tk_mul (tk_div (e 2) ((e 2) + v)) (z - (e 0)))), .ref h0]) ⟨hx, hb, hml, hown, hts⟩ (k_X3_times l D cI cM cJ H.size (tk_div (e 2) ((e 2) + v)) (e 3)) gX0_take_X3_times_n59 rfl rfl rfl (hN.at 38 rfl) (hm 17 (.initialized RX3) rfl) (hm 29 (.static yX3_times) rfl) (by decide +kernel) ⟨Nat.le_of_ble_eq_true rfl, Nat.le_of_ble_eq_true rfl⟩ (kp_preS hN hK hP hD) rfl rfl hl.1 rfl (kw_room (Nat.le_of_ble_eq_true rfl)) dX0_take_192 ⟨Nat.le_of_ble_eq_true rfl, Nat.le_of_ble_eq_true rfl⟩) hP hD hS hA (fun r_71 u_71 H locs p_71 hP hD hS => ?_)
                      obtain rfl : r_71 = tk_mul (tk_div (e 2) ((e 2) + v)) (e 3) := p_71
                      have hP : va_P D vwCl ([(h0, .inr (0, tk_ev e))]) H := hP
                      have hD : va_D A ([(h0, .inr (0, tk_ev e))]) := hD
                      refine lv_lsub hx hb dX0_take_195 ?_
                      refine lv_aload_n hx hb dX0_take_196 rfl (lv_at hl 7 rfl) ?_
                      refine va_get (D := D) (ci := 0) (v := .long (e 4)) (C := RX0) (T := TX0) (N := 8) hx hb hts izX0_take_0 hown hK hP 0 rfl rfl 4 (by decide) (hm 3 (.fieldLink RX0 26 "TankFilter$Estimate" "flowVariance" "J") rfl) (fun _ h9 => h9) rfl dX0_take_197 ?_
                      refine lv_lload hx hb dX0_take_200 (lv_at hl 0 rfl) ?_
                      refine lv_lload hx hb dX0_take_202 (lv_at hl 4 rfl) ?_
                      refine kc_l (wc := []) (wr := [(h0, .inr (0, tk_ev e))]) (kw_runSN 16 2 (As := [.long (tk_div (e 3) ((e 2) + v)), .long (e 3)]) (rest := [.long (e 4), .long ((e 3) - (tk_mul (tk_div (e 2) ((e 2) + v)) (e 3))), .long ((e 2) - (tk_mul (tk_div (e 2) ((e 2) + v)) (e 2))), .long ((e 1) + (tk_mul (tk_div (e 3) ((e 2) + v)) (z - (e 0)))), .long ((e 0) + (tk_mul (tk_div (e 2) ((e 2) + v)) (z - (e 0)))), .ref h0]) ⟨hx, hb, hml, hown, hts⟩ (k_X3_times l D cI cM cJ H.size (tk_div (e 3) ((e 2) + v)) (e 3)) gX0_take_X3_times_n59 rfl rfl rfl (hN.at 38 rfl) (hm 17 (.initialized RX3) rfl) (hm 29 (.static yX3_times) rfl) (by decide +kernel) ⟨Nat.le_of_ble_eq_true rfl, Nat.le_of_ble_eq_true rfl⟩ (kp_preS hN hK hP hD) rfl rfl hl.1 rfl (kw_room (Nat.le_of_ble_eq_true rfl)) dX0_take_204 ⟨Nat.le_of_ble_eq_true rfl, Nat.le_of_ble_eq_true rfl⟩) hP hD hS hA (fun r_72 u_72 H locs p_72 hP hD hS => ?_)
                      obtain rfl : r_72 = tk_mul (tk_div (e 3) ((e 2) + v)) (e 3) := p_72
                      have hP : va_P D vwCl ([(h0, .inr (0, tk_ev e))]) H := hP
                      have hD : va_D A ([(h0, .inr (0, tk_ev e))]) := hD
                      refine lv_lsub hx hb dX0_take_207 ?_
                      refine kc_i (wc := [(h0, .inr (0, tk_ev e))]) (wr := []) (va_runV (As := [.long ((e 0) + (tk_mul (tk_div (e 2) ((e 2) + v)) (z - (e 0)))), .long ((e 1) + (tk_mul (tk_div (e 3) ((e 2) + v)) (z - (e 0)))), .long ((e 2) - (tk_mul (tk_div (e 2) ((e 2) + v)) (e 2))), .long ((e 3) - (tk_mul (tk_div (e 2) ((e 2) + v)) (e 3))), .long ((e 4) - (tk_mul (tk_div (e 3) ((e 2) + v)) (e 3)))]) (rest := []) ⟨hx, hb, hml, hown, hts⟩ (k_X0_move l D cI cM cJ H.size h0 e ((e 0) + (tk_mul (tk_div (e 2) ((e 2) + v)) (z - (e 0)))) ((e 1) + (tk_mul (tk_div (e 3) ((e 2) + v)) (z - (e 0)))) ((e 2) - (tk_mul (tk_div (e 2) ((e 2) + v)) (e 2))) ((e 3) - (tk_mul (tk_div (e 2) ((e 2) + v)) (e 3))) ((e 4) - (tk_mul (tk_div (e 3) ((e 2) + v)) (e 3)))) (cwV 5 hts gX0_take_X0_move rfl rfl rfl (by decide +kernel) ⟨Nat.le_of_ble_eq_true rfl, Nat.le_of_ble_eq_true rfl⟩) (kp_preV (q := (RX0, TX0, 8)) hN hK hP hD 0 rfl rfl) rfl rfl hl.1 rfl (lv_room (Nat.le_of_ble_eq_true rfl)) dX0_take_208 ⟨Nat.le_of_ble_eq_true rfl, Nat.le_of_ble_eq_true rfl⟩) hP hD hS hA (fun r_73 u_73 H locs p_73 hP hD hS => ?_)
                      rcases p_73 with ⟨p_73, rfl, rfl⟩ | ⟨p_73, rfl, rfl⟩
                      · have hP : va_P D vwCl ([(h0, .inr (0, tk_ev (tk_mv e ((e 0) + (tk_mul (tk_div (e 2) ((e 2) + v)) (z - (e 0)))) ((e 1) + (tk_mul (tk_div (e 3) ((e 2) + v)) (z - (e 0)))) ((e 2) - (tk_mul (tk_div (e 2) ((e 2) + v)) (e 2))) ((e 3) - (tk_mul (tk_div (e 2) ((e 2) + v)) (e 3))) ((e 4) - (tk_mul (tk_div (e 3) ((e 2) + v)) (e 3))))))]) H := hP
                        have hD : va_D A ([(h0, .inr (0, tk_ev (tk_mv e ((e 0) + (tk_mul (tk_div (e 2) ((e 2) + v)) (z - (e 0)))) ((e 1) + (tk_mul (tk_div (e 3) ((e 2) + v)) (z - (e 0)))) ((e 2) - (tk_mul (tk_div (e 2) ((e 2) + v)) (e 2))) ((e 3) - (tk_mul (tk_div (e 2) ((e 2) + v)) (e 3))) ((e 4) - (tk_mul (tk_div (e 3) ((e 2) + v)) (e 3))))))]) := hD
                        refine lv_istore (lv' := [(21, .int 1), (19, .long (tk_div (e 3) ((e 2) + v))), (17, .long (tk_div (e 2) ((e 2) + v))), (15, .long ((e 2) + v)), (13, .long (z - (e 0))), (11, .long (e 3)), (9, .long (e 2)), (8, .int 1), (0, .ref h0), (1, .long z), (3, .int kd), (4, .long v), (6, .long g)]) hx hb dX0_take_211 hl (by decide) rfl (fun ls hl => ?_)
                        refine lv_iload hx hb dX0_take_213 (lv_at hl 0 rfl) ?_
                        refine lv_if_ne (tgt := 221) hx hb dX0_take_215 (by decide) (fun c_74 => ?_) (fun c_74 => ?_)
                        · skip
                          refine lv_aload_n hx hb dX0_take_221 rfl (lv_at hl 8 rfl) ?_
                          refine lv_lload hx hb dX0_take_222 (lv_at hl 4 rfl) ?_
                          refine va_put (D := D) (ci := 0) (v := .long (z - (e 0))) (ty := .long) (C := RX0) (T := TX0) (N := 8) hx hb hts izX0_take_0 tyX0 tyX0_ok nmX0 hown hK hP hD hS 0 rfl rfl 5 (by decide) (hm 5 (.fieldLink RX0 31 "TankFilter$Estimate" "innovation" "J") rfl) (fun _ h9 => h9) rfl (by decide +kernel) rfl rfl (Nat.le_of_ble_eq_true rfl) dX0_take_224 (fun H locs hP hD hS => ?_)
                          have hP : va_P D vwCl ([(h0, .inr (0, [.long ((tk_mv e ((e 0) + (tk_mul (tk_div (e 2) ((e 2) + v)) (z - (e 0)))) ((e 1) + (tk_mul (tk_div (e 3) ((e 2) + v)) (z - (e 0)))) ((e 2) - (tk_mul (tk_div (e 2) ((e 2) + v)) (e 2))) ((e 3) - (tk_mul (tk_div (e 2) ((e 2) + v)) (e 3))) ((e 4) - (tk_mul (tk_div (e 3) ((e 2) + v)) (e 3)))) 0), .long ((tk_mv e ((e 0) + (tk_mul (tk_div (e 2) ((e 2) + v)) (z - (e 0)))) ((e 1) + (tk_mul (tk_div (e 3) ((e 2) + v)) (z - (e 0)))) ((e 2) - (tk_mul (tk_div (e 2) ((e 2) + v)) (e 2))) ((e 3) - (tk_mul (tk_div (e 2) ((e 2) + v)) (e 3))) ((e 4) - (tk_mul (tk_div (e 3) ((e 2) + v)) (e 3)))) 1), .long ((tk_mv e ((e 0) + (tk_mul (tk_div (e 2) ((e 2) + v)) (z - (e 0)))) ((e 1) + (tk_mul (tk_div (e 3) ((e 2) + v)) (z - (e 0)))) ((e 2) - (tk_mul (tk_div (e 2) ((e 2) + v)) (e 2))) ((e 3) - (tk_mul (tk_div (e 2) ((e 2) + v)) (e 3))) ((e 4) - (tk_mul (tk_div (e 3) ((e 2) + v)) (e 3)))) 2), .long ((tk_mv e ((e 0) + (tk_mul (tk_div (e 2) ((e 2) + v)) (z - (e 0)))) ((e 1) + (tk_mul (tk_div (e 3) ((e 2) + v)) (z - (e 0)))) ((e 2) - (tk_mul (tk_div (e 2) ((e 2) + v)) (e 2))) ((e 3) - (tk_mul (tk_div (e 2) ((e 2) + v)) (e 3))) ((e 4) - (tk_mul (tk_div (e 3) ((e 2) + v)) (e 3)))) 3), .long ((tk_mv e ((e 0) + (tk_mul (tk_div (e 2) ((e 2) + v)) (z - (e 0)))) ((e 1) + (tk_mul (tk_div (e 3) ((e 2) + v)) (z - (e 0)))) ((e 2) - (tk_mul (tk_div (e 2) ((e 2) + v)) (e 2))) ((e 3) - (tk_mul (tk_div (e 2) ((e 2) + v)) (e 3))) ((e 4) - (tk_mul (tk_div (e 3) ((e 2) + v)) (e 3)))) 4), .long (z - (e 0)), .long ((tk_mv e ((e 0) + (tk_mul (tk_div (e 2) ((e 2) + v)) (z - (e 0)))) ((e 1) + (tk_mul (tk_div (e 3) ((e 2) + v)) (z - (e 0)))) ((e 2) - (tk_mul (tk_div (e 2) ((e 2) + v)) (e 2))) ((e 3) - (tk_mul (tk_div (e 2) ((e 2) + v)) (e 3))) ((e 4) - (tk_mul (tk_div (e 3) ((e 2) + v)) (e 3)))) 6), .long ((tk_mv e ((e 0) + (tk_mul (tk_div (e 2) ((e 2) + v)) (z - (e 0)))) ((e 1) + (tk_mul (tk_div (e 3) ((e 2) + v)) (z - (e 0)))) ((e 2) - (tk_mul (tk_div (e 2) ((e 2) + v)) (e 2))) ((e 3) - (tk_mul (tk_div (e 2) ((e 2) + v)) (e 3))) ((e 4) - (tk_mul (tk_div (e 3) ((e 2) + v)) (e 3)))) 7)]))]) H := hP
                          have hD : va_D A ([(h0, .inr (0, [.long ((tk_mv e ((e 0) + (tk_mul (tk_div (e 2) ((e 2) + v)) (z - (e 0)))) ((e 1) + (tk_mul (tk_div (e 3) ((e 2) + v)) (z - (e 0)))) ((e 2) - (tk_mul (tk_div (e 2) ((e 2) + v)) (e 2))) ((e 3) - (tk_mul (tk_div (e 2) ((e 2) + v)) (e 3))) ((e 4) - (tk_mul (tk_div (e 3) ((e 2) + v)) (e 3)))) 0), .long ((tk_mv e ((e 0) + (tk_mul (tk_div (e 2) ((e 2) + v)) (z - (e 0)))) ((e 1) + (tk_mul (tk_div (e 3) ((e 2) + v)) (z - (e 0)))) ((e 2) - (tk_mul (tk_div (e 2) ((e 2) + v)) (e 2))) ((e 3) - (tk_mul (tk_div (e 2) ((e 2) + v)) (e 3))) ((e 4) - (tk_mul (tk_div (e 3) ((e 2) + v)) (e 3)))) 1), .long ((tk_mv e ((e 0) + (tk_mul (tk_div (e 2) ((e 2) + v)) (z - (e 0)))) ((e 1) + (tk_mul (tk_div (e 3) ((e 2) + v)) (z - (e 0)))) ((e 2) - (tk_mul (tk_div (e 2) ((e 2) + v)) (e 2))) ((e 3) - (tk_mul (tk_div (e 2) ((e 2) + v)) (e 3))) ((e 4) - (tk_mul (tk_div (e 3) ((e 2) + v)) (e 3)))) 2), .long ((tk_mv e ((e 0) + (tk_mul (tk_div (e 2) ((e 2) + v)) (z - (e 0)))) ((e 1) + (tk_mul (tk_div (e 3) ((e 2) + v)) (z - (e 0)))) ((e 2) - (tk_mul (tk_div (e 2) ((e 2) + v)) (e 2))) ((e 3) - (tk_mul (tk_div (e 2) ((e 2) + v)) (e 3))) ((e 4) - (tk_mul (tk_div (e 3) ((e 2) + v)) (e 3)))) 3), .long ((tk_mv e ((e 0) + (tk_mul (tk_div (e 2) ((e 2) + v)) (z - (e 0)))) ((e 1) + (tk_mul (tk_div (e 3) ((e 2) + v)) (z - (e 0)))) ((e 2) - (tk_mul (tk_div (e 2) ((e 2) + v)) (e 2))) ((e 3) - (tk_mul (tk_div (e 2) ((e 2) + v)) (e 3))) ((e 4) - (tk_mul (tk_div (e 3) ((e 2) + v)) (e 3)))) 4), .long (z - (e 0)), .long ((tk_mv e ((e 0) + (tk_mul (tk_div (e 2) ((e 2) + v)) (z - (e 0)))) ((e 1) + (tk_mul (tk_div (e 3) ((e 2) + v)) (z - (e 0)))) ((e 2) - (tk_mul (tk_div (e 2) ((e 2) + v)) (e 2))) ((e 3) - (tk_mul (tk_div (e 2) ((e 2) + v)) (e 3))) ((e 4) - (tk_mul (tk_div (e 3) ((e 2) + v)) (e 3)))) 6), .long ((tk_mv e ((e 0) + (tk_mul (tk_div (e 2) ((e 2) + v)) (z - (e 0)))) ((e 1) + (tk_mul (tk_div (e 3) ((e 2) + v)) (z - (e 0)))) ((e 2) - (tk_mul (tk_div (e 2) ((e 2) + v)) (e 2))) ((e 3) - (tk_mul (tk_div (e 2) ((e 2) + v)) (e 3))) ((e 4) - (tk_mul (tk_div (e 3) ((e 2) + v)) (e 3)))) 7)]))]) := hD
                          refine lv_aload_n hx hb dX0_take_227 rfl (lv_at hl 8 rfl) ?_
                          refine lv_lload hx hb dX0_take_228 (lv_at hl 2 rfl) ?_
                          refine va_put (D := D) (ci := 0) (v := .long (tk_div (e 2) ((e 2) + v))) (ty := .long) (C := RX0) (T := TX0) (N := 8) hx hb hts izX0_take_0 tyX0 tyX0_ok nmX0 hown hK hP hD hS 0 rfl rfl 6 (by decide) (hm 9 (.fieldLink RX0 34 "TankFilter$Estimate" "levelGain" "J") rfl) (fun _ h9 => h9) rfl (by decide +kernel) rfl rfl (Nat.le_of_ble_eq_true rfl) dX0_take_230 (fun H locs hP hD hS => ?_)
                          have hP : va_P D vwCl ([(h0, .inr (0, [.long ((tk_mv e ((e 0) + (tk_mul (tk_div (e 2) ((e 2) + v)) (z - (e 0)))) ((e 1) + (tk_mul (tk_div (e 3) ((e 2) + v)) (z - (e 0)))) ((e 2) - (tk_mul (tk_div (e 2) ((e 2) + v)) (e 2))) ((e 3) - (tk_mul (tk_div (e 2) ((e 2) + v)) (e 3))) ((e 4) - (tk_mul (tk_div (e 3) ((e 2) + v)) (e 3)))) 0), .long ((tk_mv e ((e 0) + (tk_mul (tk_div (e 2) ((e 2) + v)) (z - (e 0)))) ((e 1) + (tk_mul (tk_div (e 3) ((e 2) + v)) (z - (e 0)))) ((e 2) - (tk_mul (tk_div (e 2) ((e 2) + v)) (e 2))) ((e 3) - (tk_mul (tk_div (e 2) ((e 2) + v)) (e 3))) ((e 4) - (tk_mul (tk_div (e 3) ((e 2) + v)) (e 3)))) 1), .long ((tk_mv e ((e 0) + (tk_mul (tk_div (e 2) ((e 2) + v)) (z - (e 0)))) ((e 1) + (tk_mul (tk_div (e 3) ((e 2) + v)) (z - (e 0)))) ((e 2) - (tk_mul (tk_div (e 2) ((e 2) + v)) (e 2))) ((e 3) - (tk_mul (tk_div (e 2) ((e 2) + v)) (e 3))) ((e 4) - (tk_mul (tk_div (e 3) ((e 2) + v)) (e 3)))) 2), .long ((tk_mv e ((e 0) + (tk_mul (tk_div (e 2) ((e 2) + v)) (z - (e 0)))) ((e 1) + (tk_mul (tk_div (e 3) ((e 2) + v)) (z - (e 0)))) ((e 2) - (tk_mul (tk_div (e 2) ((e 2) + v)) (e 2))) ((e 3) - (tk_mul (tk_div (e 2) ((e 2) + v)) (e 3))) ((e 4) - (tk_mul (tk_div (e 3) ((e 2) + v)) (e 3)))) 3), .long ((tk_mv e ((e 0) + (tk_mul (tk_div (e 2) ((e 2) + v)) (z - (e 0)))) ((e 1) + (tk_mul (tk_div (e 3) ((e 2) + v)) (z - (e 0)))) ((e 2) - (tk_mul (tk_div (e 2) ((e 2) + v)) (e 2))) ((e 3) - (tk_mul (tk_div (e 2) ((e 2) + v)) (e 3))) ((e 4) - (tk_mul (tk_div (e 3) ((e 2) + v)) (e 3)))) 4), .long (z - (e 0)), .long (tk_div (e 2) ((e 2) + v)), .long ((tk_mv e ((e 0) + (tk_mul (tk_div (e 2) ((e 2) + v)) (z - (e 0)))) ((e 1) + (tk_mul (tk_div (e 3) ((e 2) + v)) (z - (e 0)))) ((e 2) - (tk_mul (tk_div (e 2) ((e 2) + v)) (e 2))) ((e 3) - (tk_mul (tk_div (e 2) ((e 2) + v)) (e 3))) ((e 4) - (tk_mul (tk_div (e 3) ((e 2) + v)) (e 3)))) 7)]))]) H := hP
                          have hD : va_D A ([(h0, .inr (0, [.long ((tk_mv e ((e 0) + (tk_mul (tk_div (e 2) ((e 2) + v)) (z - (e 0)))) ((e 1) + (tk_mul (tk_div (e 3) ((e 2) + v)) (z - (e 0)))) ((e 2) - (tk_mul (tk_div (e 2) ((e 2) + v)) (e 2))) ((e 3) - (tk_mul (tk_div (e 2) ((e 2) + v)) (e 3))) ((e 4) - (tk_mul (tk_div (e 3) ((e 2) + v)) (e 3)))) 0), .long ((tk_mv e ((e 0) + (tk_mul (tk_div (e 2) ((e 2) + v)) (z - (e 0)))) ((e 1) + (tk_mul (tk_div (e 3) ((e 2) + v)) (z - (e 0)))) ((e 2) - (tk_mul (tk_div (e 2) ((e 2) + v)) (e 2))) ((e 3) - (tk_mul (tk_div (e 2) ((e 2) + v)) (e 3))) ((e 4) - (tk_mul (tk_div (e 3) ((e 2) + v)) (e 3)))) 1), .long ((tk_mv e ((e 0) + (tk_mul (tk_div (e 2) ((e 2) + v)) (z - (e 0)))) ((e 1) + (tk_mul (tk_div (e 3) ((e 2) + v)) (z - (e 0)))) ((e 2) - (tk_mul (tk_div (e 2) ((e 2) + v)) (e 2))) ((e 3) - (tk_mul (tk_div (e 2) ((e 2) + v)) (e 3))) ((e 4) - (tk_mul (tk_div (e 3) ((e 2) + v)) (e 3)))) 2), .long ((tk_mv e ((e 0) + (tk_mul (tk_div (e 2) ((e 2) + v)) (z - (e 0)))) ((e 1) + (tk_mul (tk_div (e 3) ((e 2) + v)) (z - (e 0)))) ((e 2) - (tk_mul (tk_div (e 2) ((e 2) + v)) (e 2))) ((e 3) - (tk_mul (tk_div (e 2) ((e 2) + v)) (e 3))) ((e 4) - (tk_mul (tk_div (e 3) ((e 2) + v)) (e 3)))) 3), .long ((tk_mv e ((e 0) + (tk_mul (tk_div (e 2) ((e 2) + v)) (z - (e 0)))) ((e 1) + (tk_mul (tk_div (e 3) ((e 2) + v)) (z - (e 0)))) ((e 2) - (tk_mul (tk_div (e 2) ((e 2) + v)) (e 2))) ((e 3) - (tk_mul (tk_div (e 2) ((e 2) + v)) (e 3))) ((e 4) - (tk_mul (tk_div (e 3) ((e 2) + v)) (e 3)))) 4), .long (z - (e 0)), .long (tk_div (e 2) ((e 2) + v)), .long ((tk_mv e ((e 0) + (tk_mul (tk_div (e 2) ((e 2) + v)) (z - (e 0)))) ((e 1) + (tk_mul (tk_div (e 3) ((e 2) + v)) (z - (e 0)))) ((e 2) - (tk_mul (tk_div (e 2) ((e 2) + v)) (e 2))) ((e 3) - (tk_mul (tk_div (e 2) ((e 2) + v)) (e 3))) ((e 4) - (tk_mul (tk_div (e 3) ((e 2) + v)) (e 3)))) 7)]))]) := hD
                          refine lv_aload_n hx hb dX0_take_233 rfl (lv_at hl 8 rfl) ?_
                          refine lv_lload hx hb dX0_take_234 (lv_at hl 1 rfl) ?_
                          refine va_put (D := D) (ci := 0) (v := .long (tk_div (e 3) ((e 2) + v))) (ty := .long) (C := RX0) (T := TX0) (N := 8) hx hb hts izX0_take_0 tyX0 tyX0_ok nmX0 hown hK hP hD hS 0 rfl rfl 7 (by decide) (hm 10 (.fieldLink RX0 37 "TankFilter$Estimate" "flowGain" "J") rfl) (fun _ h9 => h9) rfl (by decide +kernel) rfl rfl (Nat.le_of_ble_eq_true rfl) dX0_take_236 (fun H locs hP hD hS => ?_)
                          have hP : va_P D vwCl ([(h0, .inr (0, [.long ((tk_mv e ((e 0) + (tk_mul (tk_div (e 2) ((e 2) + v)) (z - (e 0)))) ((e 1) + (tk_mul (tk_div (e 3) ((e 2) + v)) (z - (e 0)))) ((e 2) - (tk_mul (tk_div (e 2) ((e 2) + v)) (e 2))) ((e 3) - (tk_mul (tk_div (e 2) ((e 2) + v)) (e 3))) ((e 4) - (tk_mul (tk_div (e 3) ((e 2) + v)) (e 3)))) 0), .long ((tk_mv e ((e 0) + (tk_mul (tk_div (e 2) ((e 2) + v)) (z - (e 0)))) ((e 1) + (tk_mul (tk_div (e 3) ((e 2) + v)) (z - (e 0)))) ((e 2) - (tk_mul (tk_div (e 2) ((e 2) + v)) (e 2))) ((e 3) - (tk_mul (tk_div (e 2) ((e 2) + v)) (e 3))) ((e 4) - (tk_mul (tk_div (e 3) ((e 2) + v)) (e 3)))) 1), .long ((tk_mv e ((e 0) + (tk_mul (tk_div (e 2) ((e 2) + v)) (z - (e 0)))) ((e 1) + (tk_mul (tk_div (e 3) ((e 2) + v)) (z - (e 0)))) ((e 2) - (tk_mul (tk_div (e 2) ((e 2) + v)) (e 2))) ((e 3) - (tk_mul (tk_div (e 2) ((e 2) + v)) (e 3))) ((e 4) - (tk_mul (tk_div (e 3) ((e 2) + v)) (e 3)))) 2), .long ((tk_mv e ((e 0) + (tk_mul (tk_div (e 2) ((e 2) + v)) (z - (e 0)))) ((e 1) + (tk_mul (tk_div (e 3) ((e 2) + v)) (z - (e 0)))) ((e 2) - (tk_mul (tk_div (e 2) ((e 2) + v)) (e 2))) ((e 3) - (tk_mul (tk_div (e 2) ((e 2) + v)) (e 3))) ((e 4) - (tk_mul (tk_div (e 3) ((e 2) + v)) (e 3)))) 3), .long ((tk_mv e ((e 0) + (tk_mul (tk_div (e 2) ((e 2) + v)) (z - (e 0)))) ((e 1) + (tk_mul (tk_div (e 3) ((e 2) + v)) (z - (e 0)))) ((e 2) - (tk_mul (tk_div (e 2) ((e 2) + v)) (e 2))) ((e 3) - (tk_mul (tk_div (e 2) ((e 2) + v)) (e 3))) ((e 4) - (tk_mul (tk_div (e 3) ((e 2) + v)) (e 3)))) 4), .long (z - (e 0)), .long (tk_div (e 2) ((e 2) + v)), .long (tk_div (e 3) ((e 2) + v))]))]) H := hP
                          have hD : va_D A ([(h0, .inr (0, [.long ((tk_mv e ((e 0) + (tk_mul (tk_div (e 2) ((e 2) + v)) (z - (e 0)))) ((e 1) + (tk_mul (tk_div (e 3) ((e 2) + v)) (z - (e 0)))) ((e 2) - (tk_mul (tk_div (e 2) ((e 2) + v)) (e 2))) ((e 3) - (tk_mul (tk_div (e 2) ((e 2) + v)) (e 3))) ((e 4) - (tk_mul (tk_div (e 3) ((e 2) + v)) (e 3)))) 0), .long ((tk_mv e ((e 0) + (tk_mul (tk_div (e 2) ((e 2) + v)) (z - (e 0)))) ((e 1) + (tk_mul (tk_div (e 3) ((e 2) + v)) (z - (e 0)))) ((e 2) - (tk_mul (tk_div (e 2) ((e 2) + v)) (e 2))) ((e 3) - (tk_mul (tk_div (e 2) ((e 2) + v)) (e 3))) ((e 4) - (tk_mul (tk_div (e 3) ((e 2) + v)) (e 3)))) 1), .long ((tk_mv e ((e 0) + (tk_mul (tk_div (e 2) ((e 2) + v)) (z - (e 0)))) ((e 1) + (tk_mul (tk_div (e 3) ((e 2) + v)) (z - (e 0)))) ((e 2) - (tk_mul (tk_div (e 2) ((e 2) + v)) (e 2))) ((e 3) - (tk_mul (tk_div (e 2) ((e 2) + v)) (e 3))) ((e 4) - (tk_mul (tk_div (e 3) ((e 2) + v)) (e 3)))) 2), .long ((tk_mv e ((e 0) + (tk_mul (tk_div (e 2) ((e 2) + v)) (z - (e 0)))) ((e 1) + (tk_mul (tk_div (e 3) ((e 2) + v)) (z - (e 0)))) ((e 2) - (tk_mul (tk_div (e 2) ((e 2) + v)) (e 2))) ((e 3) - (tk_mul (tk_div (e 2) ((e 2) + v)) (e 3))) ((e 4) - (tk_mul (tk_div (e 3) ((e 2) + v)) (e 3)))) 3), .long ((tk_mv e ((e 0) + (tk_mul (tk_div (e 2) ((e 2) + v)) (z - (e 0)))) ((e 1) + (tk_mul (tk_div (e 3) ((e 2) + v)) (z - (e 0)))) ((e 2) - (tk_mul (tk_div (e 2) ((e 2) + v)) (e 2))) ((e 3) - (tk_mul (tk_div (e 2) ((e 2) + v)) (e 3))) ((e 4) - (tk_mul (tk_div (e 3) ((e 2) + v)) (e 3)))) 4), .long (z - (e 0)), .long (tk_div (e 2) ((e 2) + v)), .long (tk_div (e 3) ((e 2) + v))]))]) := hD
                          refine lv_iconst (v := 1) hx hb dX0_take_239 (by decide) ?_
                          exact W.iret (v := 1) hx hb hr (fun t ht hW => ⟨⟨1, cq_e e (e 2) (e 3) (e 2) (e 0) z v, rfl, Or.inr (Or.inl ⟨(fun y => cq_rej_2 c_61 ((co_rej0 c_1).mp y)), by rw [co_ok0 c_1, cq_ok, p_64, p_66, p_73]; rfl, rfl, (co_e0 c_1).symm⟩), KB.of hAe (by rw [ht]; exact hP) hD⟩, hS.F ht⟩) hS.2.2 dX0_take_240
                        · exact absurd c_74 (by decide)
                      · have hP : va_P D vwCl ([(h0, .inr (0, tk_ev e))]) H := hP
                        have hD : va_D A ([(h0, .inr (0, tk_ev e))]) := hD
                        refine lv_istore (lv' := [(21, .int 0), (19, .long (tk_div (e 3) ((e 2) + v))), (17, .long (tk_div (e 2) ((e 2) + v))), (15, .long ((e 2) + v)), (13, .long (z - (e 0))), (11, .long (e 3)), (9, .long (e 2)), (8, .int 1), (0, .ref h0), (1, .long z), (3, .int kd), (4, .long v), (6, .long g)]) hx hb dX0_take_211 hl (by decide) rfl (fun ls hl => ?_)
                        refine lv_iload hx hb dX0_take_213 (lv_at hl 0 rfl) ?_
                        refine lv_if_ne (tgt := 221) hx hb dX0_take_215 (by decide) (fun c_75 => ?_) (fun c_75 => ?_)
                        · exact absurd c_75 (by decide)
                        · skip
                          refine lv_ldc (v := -2000000004) hx hb hown (hm 6 (.constant RX0 58 (-2000000004)) rfl) dX0_take_218 ?_
                          exact W.iret (v := (-2000000004)) hx hb hr (fun t ht hW => ⟨⟨(-2000000004), e, rfl, Or.inr (Or.inr ⟨(fun y => cq_rej_2 c_61 ((co_rej0 c_1).mp y)), by rw [co_ok0 c_1, cq_ok, p_64, p_66, p_73]; rfl, rfl, rfl⟩), KB.of hAe (by rw [ht]; exact hP) hD⟩, hS.F ht⟩) hS.2.2 dX0_take_220
                    · exact absurd c_67 (by decide)
                  · have hP : va_P D vwCl ([(h0, .inr (0, tk_ev e))]) H := hP
                    have hD : va_D A ([(h0, .inr (0, tk_ev e))]) := hD
                    refine lv_if_ne (tgt := 147) hx hb dX0_take_141 (by decide) (fun c_76 => ?_) (fun c_76 => ?_)
                    · exact absurd c_76 (by decide)
                    · skip
                      refine lv_ldc (v := -2000000004) hx hb hown (hm 6 (.constant RX0 58 (-2000000004)) rfl) dX0_take_144 ?_
                      exact W.iret (v := (-2000000004)) hx hb hr (fun t ht hW => ⟨⟨(-2000000004), e, rfl, Or.inr (Or.inr ⟨(fun y => cq_rej_2 c_61 ((co_rej0 c_1).mp y)), by rw [co_ok0 c_1, cq_ok, p_64, p_66]; rfl, rfl, rfl⟩), KB.of hAe (by rw [ht]; exact hP) hD⟩, hS.F ht⟩) hS.2.2 dX0_take_146
              · have hP : va_P D vwCl ([(h0, .inr (0, tk_ev e))]) H := hP
                have hD : va_D A ([(h0, .inr (0, tk_ev e))]) := hD
                refine lv_if_eq (tgt := 144) hx hb dX0_take_133 (by decide) (fun c_77 => ?_) (fun c_77 => ?_)
                · skip
                  refine lv_ldc (v := -2000000004) hx hb hown (hm 6 (.constant RX0 58 (-2000000004)) rfl) dX0_take_144 ?_
                  exact W.iret (v := (-2000000004)) hx hb hr (fun t ht hW => ⟨⟨(-2000000004), e, rfl, Or.inr (Or.inr ⟨(fun y => cq_rej_2 c_61 ((co_rej0 c_1).mp y)), by rw [co_ok0 c_1, cq_ok, p_64]; rfl, rfl, rfl⟩), KB.of hAe (by rw [ht]; exact hP) hD⟩, hS.F ht⟩) hS.2.2 dX0_take_146
                · exact absurd c_77 (by decide)
            · have c_61 := mt (lg_cmp_le _ _).mpr c_61
              refine lv_aload_n hx hb dX0_take_102 rfl (lv_at hl 5 rfl) ?_
              refine lv_lload hx hb dX0_take_103 (lv_at hl 1 rfl) ?_
              refine va_put (D := D) (ci := 0) (v := .long (z - (e 0))) (ty := .long) (C := RX0) (T := TX0) (N := 8) hx hb hts izX0_take_0 tyX0 tyX0_ok nmX0 hown hK hP hD hS 0 rfl rfl 5 (by decide) (hm 5 (.fieldLink RX0 31 "TankFilter$Estimate" "innovation" "J") rfl) (fun _ h9 => h9) rfl (by decide +kernel) rfl rfl (Nat.le_of_ble_eq_true rfl) dX0_take_105 (fun H locs hP hD hS => ?_)
              have hP : va_P D vwCl ([(h0, .inr (0, [.long (e 0), .long (e 1), .long (e 2), .long (e 3), .long (e 4), .long (z - (e 0)), .long (e 6), .long (e 7)]))]) H := hP
              have hD : va_D A ([(h0, .inr (0, [.long (e 0), .long (e 1), .long (e 2), .long (e 3), .long (e 4), .long (z - (e 0)), .long (e 6), .long (e 7)]))]) := hD
              refine lv_iconst (v := 0) hx hb dX0_take_108 (by decide) ?_
              exact W.iret (v := 0) hx hb hr (fun t ht hW => ⟨⟨0, tk_y e (z - e 0), rfl, Or.inl ⟨(co_rej0 c_1).mpr (cq_rej_t c_44 c_61), rfl, by rw [co_m0 c_1]⟩, KB.of hAe (by rw [ht]; exact hP) hD⟩, hS.F ht⟩) hS.2.2 dX0_take_109

theorem izX0_copyFrom_0 : ∀ w ∈ wsX00, w ∈ wsX0_copyFrom := fun _ h => List.mem_cons_of_mem _ (List.mem_append_right _ h)
set_option maxHeartbeats 4000000 in
set_option maxRecDepth 100000 in
/-- copyFrom -/
theorem k_X0_copyFrom (l : Launch) (D : va_G) (cI cM cJ : ClassId) (sz : Nat) (h0 h1 : Nat) (e f : Nat → Int64) : Met l yX0_copyFrom wsX0_copyFrom ({ frames := 0, cells := 0, slots := 0, locals := 0 }) (va_Pc [.ref h0, .ref h1] (KP D (tk_T cI cM cJ) ([(h0, .inr (0, tk_ev e)), (h1, .inr (0, tk_ev f))]) sz)) (va_Qv (fun (u : Unit) => True) (fun u t => KB D ([(h0, .inr (0, tk_ev e)), (h1, .inr (0, tk_ev f))]) ([(h0, .inr (0, tk_ev f)), (h1, .inr (0, tk_ev f))]) sz t) (va_A ([(h0, .inr (0, tk_ev e)), (h1, .inr (0, tk_ev f))]) sz)) 0 0 (va_A ([(h0, .inr (0, tk_ev e)), (h1, .inr (0, tk_ev f))]) sz) := by
  refine Met.ofW (cc := cX0_copyFrom) (maxL := 2) (ret := none) (by decide) rfl ?_
  intro p e s m args below meth c s₁ B hml hv
  obtain ⟨rfl, hsz, hP, hK, hD0, hN⟩ := hv
  have hx := B.exec
  have hb := B.bytes
  have hr := B.returns
  have hts := atoms_spec (ws := wsX0_copyFrom) B.pre
  have hm : ∀ (i : Nat) (w : Cond), wsX0_copyFrom[i]? = some w → w.before _ s = true := fun i w h => hts w (List.mem_of_getElem? h)
  have hown : s.vm.findClass RX0 = some m.cls := findClass_of_methodNamed B.named
  have hlocks := B.notSynchronized
  subst hsz
  have hD := hD0.self (sz := s.heap.size)
  generalize hAe : va_A ([(h0, .inr (0, tk_ev e)), (h1, .inr (0, tk_ev f))]) s.heap.size = A at hD ⊢
  have hA : ∀ q : Nat, s.heap.size ≤ q → A q := fun q h => by rw [← hAe]; exact Or.inr h
  have hS : va_S A s.heap s.heap [] := va_S.rf
  have hP : va_P D vwCl ([(h0, .inr (0, tk_ev e)), (h1, .inr (0, tk_ev f))]) s.heap := hP
  have hl := lv_entry ([.ref h0, .ref h1]) (n := 2) (Nat.le_of_ble_eq_true rfl)
  rw [lg_entry_eq]
  generalize (lg_sl ([.ref h0, .ref h1]) ++ List.replicate (2 - (lg_sl ([.ref h0, .ref h1])).length) Slot.unset).toArray = ls at hl ⊢
  have hl : lv_has ls 2 [(0, .ref h0), (1, .ref h1)] := hl
  refine lv_aload_n hx hb dX0_copyFrom_0 rfl (lv_at hl 0 rfl) ?_
  refine lv_aload_n hx hb dX0_copyFrom_1 rfl (lv_at hl 1 rfl) ?_
  refine va_get (D := D) (ci := 0) (v := .long (f 0)) (C := RX0) (T := TX0) (N := 8) hx hb hts izX0_copyFrom_0 hown hK hP 1 rfl rfl 0 (by decide) (hm 1 (.fieldLink RX0 9 "TankFilter$Estimate" "level" "J") rfl) (fun _ h9 => h9) rfl dX0_copyFrom_2 ?_
  refine va_put (D := D) (ci := 0) (v := .long (f 0)) (ty := .long) (C := RX0) (T := TX0) (N := 8) hx hb hts izX0_copyFrom_0 tyX0 tyX0_ok nmX0 hown hK hP hD hS 0 rfl rfl 0 (by decide) (hm 1 (.fieldLink RX0 9 "TankFilter$Estimate" "level" "J") rfl) (fun _ h9 => h9) rfl (by decide +kernel) rfl rfl (Nat.le_of_ble_eq_true rfl) dX0_copyFrom_5 (fun H locs hP hD hS => ?_)
  have hP : va_P D vwCl ([(h0, .inr (0, [.long (f 0), .long (e 1), .long (e 2), .long (e 3), .long (e 4), .long (e 5), .long (e 6), .long (e 7)])), (h1, .inr (0, tk_ev f))]) H := hP
  have hD : va_D A ([(h0, .inr (0, [.long (f 0), .long (e 1), .long (e 2), .long (e 3), .long (e 4), .long (e 5), .long (e 6), .long (e 7)])), (h1, .inr (0, tk_ev f))]) := hD
  refine lv_aload_n hx hb dX0_copyFrom_8 rfl (lv_at hl 0 rfl) ?_
  refine lv_aload_n hx hb dX0_copyFrom_9 rfl (lv_at hl 1 rfl) ?_
  refine va_get (D := D) (ci := 0) (v := .long (f 1)) (C := RX0) (T := TX0) (N := 8) hx hb hts izX0_copyFrom_0 hown hK hP 1 rfl rfl 1 (by decide) (hm 2 (.fieldLink RX0 15 "TankFilter$Estimate" "flow" "J") rfl) (fun _ h9 => h9) rfl dX0_copyFrom_10 ?_
  refine va_put (D := D) (ci := 0) (v := .long (f 1)) (ty := .long) (C := RX0) (T := TX0) (N := 8) hx hb hts izX0_copyFrom_0 tyX0 tyX0_ok nmX0 hown hK hP hD hS 0 rfl rfl 1 (by decide) (hm 2 (.fieldLink RX0 15 "TankFilter$Estimate" "flow" "J") rfl) (fun _ h9 => h9) rfl (by decide +kernel) rfl rfl (Nat.le_of_ble_eq_true rfl) dX0_copyFrom_13 (fun H locs hP hD hS => ?_)
  have hP : va_P D vwCl ([(h0, .inr (0, [.long (f 0), .long (f 1), .long (e 2), .long (e 3), .long (e 4), .long (e 5), .long (e 6), .long (e 7)])), (h1, .inr (0, tk_ev f))]) H := hP
  have hD : va_D A ([(h0, .inr (0, [.long (f 0), .long (f 1), .long (e 2), .long (e 3), .long (e 4), .long (e 5), .long (e 6), .long (e 7)])), (h1, .inr (0, tk_ev f))]) := hD
  refine lv_aload_n hx hb dX0_copyFrom_16 rfl (lv_at hl 0 rfl) ?_
  refine lv_aload_n hx hb dX0_copyFrom_17 rfl (lv_at hl 1 rfl) ?_
  refine va_get (D := D) (ci := 0) (v := .long (f 2)) (C := RX0) (T := TX0) (N := 8) hx hb hts izX0_copyFrom_0 hown hK hP 1 rfl rfl 2 (by decide) (hm 3 (.fieldLink RX0 20 "TankFilter$Estimate" "levelVariance" "J") rfl) (fun _ h9 => h9) rfl dX0_copyFrom_18 ?_
  refine va_put (D := D) (ci := 0) (v := .long (f 2)) (ty := .long) (C := RX0) (T := TX0) (N := 8) hx hb hts izX0_copyFrom_0 tyX0 tyX0_ok nmX0 hown hK hP hD hS 0 rfl rfl 2 (by decide) (hm 3 (.fieldLink RX0 20 "TankFilter$Estimate" "levelVariance" "J") rfl) (fun _ h9 => h9) rfl (by decide +kernel) rfl rfl (Nat.le_of_ble_eq_true rfl) dX0_copyFrom_21 (fun H locs hP hD hS => ?_)
  have hP : va_P D vwCl ([(h0, .inr (0, [.long (f 0), .long (f 1), .long (f 2), .long (e 3), .long (e 4), .long (e 5), .long (e 6), .long (e 7)])), (h1, .inr (0, tk_ev f))]) H := hP
  have hD : va_D A ([(h0, .inr (0, [.long (f 0), .long (f 1), .long (f 2), .long (e 3), .long (e 4), .long (e 5), .long (e 6), .long (e 7)])), (h1, .inr (0, tk_ev f))]) := hD
  refine lv_aload_n hx hb dX0_copyFrom_24 rfl (lv_at hl 0 rfl) ?_
  refine lv_aload_n hx hb dX0_copyFrom_25 rfl (lv_at hl 1 rfl) ?_
  refine va_get (D := D) (ci := 0) (v := .long (f 3)) (C := RX0) (T := TX0) (N := 8) hx hb hts izX0_copyFrom_0 hown hK hP 1 rfl rfl 3 (by decide) (hm 4 (.fieldLink RX0 23 "TankFilter$Estimate" "covariance" "J") rfl) (fun _ h9 => h9) rfl dX0_copyFrom_26 ?_
  refine va_put (D := D) (ci := 0) (v := .long (f 3)) (ty := .long) (C := RX0) (T := TX0) (N := 8) hx hb hts izX0_copyFrom_0 tyX0 tyX0_ok nmX0 hown hK hP hD hS 0 rfl rfl 3 (by decide) (hm 4 (.fieldLink RX0 23 "TankFilter$Estimate" "covariance" "J") rfl) (fun _ h9 => h9) rfl (by decide +kernel) rfl rfl (Nat.le_of_ble_eq_true rfl) dX0_copyFrom_29 (fun H locs hP hD hS => ?_)
  have hP : va_P D vwCl ([(h0, .inr (0, [.long (f 0), .long (f 1), .long (f 2), .long (f 3), .long (e 4), .long (e 5), .long (e 6), .long (e 7)])), (h1, .inr (0, tk_ev f))]) H := hP
  have hD : va_D A ([(h0, .inr (0, [.long (f 0), .long (f 1), .long (f 2), .long (f 3), .long (e 4), .long (e 5), .long (e 6), .long (e 7)])), (h1, .inr (0, tk_ev f))]) := hD
  refine lv_aload_n hx hb dX0_copyFrom_32 rfl (lv_at hl 0 rfl) ?_
  refine lv_aload_n hx hb dX0_copyFrom_33 rfl (lv_at hl 1 rfl) ?_
  refine va_get (D := D) (ci := 0) (v := .long (f 4)) (C := RX0) (T := TX0) (N := 8) hx hb hts izX0_copyFrom_0 hown hK hP 1 rfl rfl 4 (by decide) (hm 5 (.fieldLink RX0 26 "TankFilter$Estimate" "flowVariance" "J") rfl) (fun _ h9 => h9) rfl dX0_copyFrom_34 ?_
  refine va_put (D := D) (ci := 0) (v := .long (f 4)) (ty := .long) (C := RX0) (T := TX0) (N := 8) hx hb hts izX0_copyFrom_0 tyX0 tyX0_ok nmX0 hown hK hP hD hS 0 rfl rfl 4 (by decide) (hm 5 (.fieldLink RX0 26 "TankFilter$Estimate" "flowVariance" "J") rfl) (fun _ h9 => h9) rfl (by decide +kernel) rfl rfl (Nat.le_of_ble_eq_true rfl) dX0_copyFrom_37 (fun H locs hP hD hS => ?_)
  have hP : va_P D vwCl ([(h0, .inr (0, [.long (f 0), .long (f 1), .long (f 2), .long (f 3), .long (f 4), .long (e 5), .long (e 6), .long (e 7)])), (h1, .inr (0, tk_ev f))]) H := hP
  have hD : va_D A ([(h0, .inr (0, [.long (f 0), .long (f 1), .long (f 2), .long (f 3), .long (f 4), .long (e 5), .long (e 6), .long (e 7)])), (h1, .inr (0, tk_ev f))]) := hD
  refine lv_aload_n hx hb dX0_copyFrom_40 rfl (lv_at hl 0 rfl) ?_
  refine lv_aload_n hx hb dX0_copyFrom_41 rfl (lv_at hl 1 rfl) ?_
  refine va_get (D := D) (ci := 0) (v := .long (f 5)) (C := RX0) (T := TX0) (N := 8) hx hb hts izX0_copyFrom_0 hown hK hP 1 rfl rfl 5 (by decide) (hm 6 (.fieldLink RX0 31 "TankFilter$Estimate" "innovation" "J") rfl) (fun _ h9 => h9) rfl dX0_copyFrom_42 ?_
  refine va_put (D := D) (ci := 0) (v := .long (f 5)) (ty := .long) (C := RX0) (T := TX0) (N := 8) hx hb hts izX0_copyFrom_0 tyX0 tyX0_ok nmX0 hown hK hP hD hS 0 rfl rfl 5 (by decide) (hm 6 (.fieldLink RX0 31 "TankFilter$Estimate" "innovation" "J") rfl) (fun _ h9 => h9) rfl (by decide +kernel) rfl rfl (Nat.le_of_ble_eq_true rfl) dX0_copyFrom_45 (fun H locs hP hD hS => ?_)
  have hP : va_P D vwCl ([(h0, .inr (0, [.long (f 0), .long (f 1), .long (f 2), .long (f 3), .long (f 4), .long (f 5), .long (e 6), .long (e 7)])), (h1, .inr (0, tk_ev f))]) H := hP
  have hD : va_D A ([(h0, .inr (0, [.long (f 0), .long (f 1), .long (f 2), .long (f 3), .long (f 4), .long (f 5), .long (e 6), .long (e 7)])), (h1, .inr (0, tk_ev f))]) := hD
  refine lv_aload_n hx hb dX0_copyFrom_48 rfl (lv_at hl 0 rfl) ?_
  refine lv_aload_n hx hb dX0_copyFrom_49 rfl (lv_at hl 1 rfl) ?_
  refine va_get (D := D) (ci := 0) (v := .long (f 6)) (C := RX0) (T := TX0) (N := 8) hx hb hts izX0_copyFrom_0 hown hK hP 1 rfl rfl 6 (by decide) (hm 7 (.fieldLink RX0 34 "TankFilter$Estimate" "levelGain" "J") rfl) (fun _ h9 => h9) rfl dX0_copyFrom_50 ?_
  refine va_put (D := D) (ci := 0) (v := .long (f 6)) (ty := .long) (C := RX0) (T := TX0) (N := 8) hx hb hts izX0_copyFrom_0 tyX0 tyX0_ok nmX0 hown hK hP hD hS 0 rfl rfl 6 (by decide) (hm 7 (.fieldLink RX0 34 "TankFilter$Estimate" "levelGain" "J") rfl) (fun _ h9 => h9) rfl (by decide +kernel) rfl rfl (Nat.le_of_ble_eq_true rfl) dX0_copyFrom_53 (fun H locs hP hD hS => ?_)
  have hP : va_P D vwCl ([(h0, .inr (0, [.long (f 0), .long (f 1), .long (f 2), .long (f 3), .long (f 4), .long (f 5), .long (f 6), .long (e 7)])), (h1, .inr (0, tk_ev f))]) H := hP
  have hD : va_D A ([(h0, .inr (0, [.long (f 0), .long (f 1), .long (f 2), .long (f 3), .long (f 4), .long (f 5), .long (f 6), .long (e 7)])), (h1, .inr (0, tk_ev f))]) := hD
  refine lv_aload_n hx hb dX0_copyFrom_56 rfl (lv_at hl 0 rfl) ?_
  refine lv_aload_n hx hb dX0_copyFrom_57 rfl (lv_at hl 1 rfl) ?_
  refine va_get (D := D) (ci := 0) (v := .long (f 7)) (C := RX0) (T := TX0) (N := 8) hx hb hts izX0_copyFrom_0 hown hK hP 1 rfl rfl 7 (by decide) (hm 8 (.fieldLink RX0 37 "TankFilter$Estimate" "flowGain" "J") rfl) (fun _ h9 => h9) rfl dX0_copyFrom_58 ?_
  refine va_put (D := D) (ci := 0) (v := .long (f 7)) (ty := .long) (C := RX0) (T := TX0) (N := 8) hx hb hts izX0_copyFrom_0 tyX0 tyX0_ok nmX0 hown hK hP hD hS 0 rfl rfl 7 (by decide) (hm 8 (.fieldLink RX0 37 "TankFilter$Estimate" "flowGain" "J") rfl) (fun _ h9 => h9) rfl (by decide +kernel) rfl rfl (Nat.le_of_ble_eq_true rfl) dX0_copyFrom_61 (fun H locs hP hD hS => ?_)
  have hP : va_P D vwCl ([(h0, .inr (0, [.long (f 0), .long (f 1), .long (f 2), .long (f 3), .long (f 4), .long (f 5), .long (f 6), .long (f 7)])), (h1, .inr (0, tk_ev f))]) H := hP
  have hD : va_D A ([(h0, .inr (0, [.long (f 0), .long (f 1), .long (f 2), .long (f 3), .long (f 4), .long (f 5), .long (f 6), .long (f 7)])), (h1, .inr (0, tk_ev f))]) := hD
  exact W.vret hx hb hr (fun t ht hW => ⟨⟨(), rfl, trivial, KB.of hAe (by rw [ht]; exact hP) hD⟩, hS.F ht⟩) hS.2.2 dX0_copyFrom_64

def tk_start (x v a c : Int32) : Nat → Int64 := fun k => match k with
  | 0 => x.toInt64
  | 1 => v.toInt64
  | 2 => a.toInt64
  | 3 => 0
  | 4 => c.toInt64
  | _ => -2000000001

theorem izX0_startFrom_0 : ∀ w ∈ wsX00, w ∈ wsX0_startFrom := fun _ h => List.mem_cons_of_mem _ (List.mem_append_right _ h)
set_option maxHeartbeats 4000000 in
set_option maxRecDepth 100000 in
/-- startFrom -/
theorem k_X0_startFrom (l : Launch) (D : va_G) (cI cM cJ : ClassId) (sz : Nat) (h0 : Nat) (e : Nat → Int64) (x v a c : Int32) : Met l yX0_startFrom wsX0_startFrom ({ frames := 0, cells := 0, slots := 0, locals := 0 }) (va_Pc [.ref h0, .int x, .int v, .int a, .int c] (KP D (tk_T cI cM cJ) ([(h0, .inr (0, tk_ev e))]) sz)) (va_Qv (fun (u : Unit) => True) (fun u t => KB D ([(h0, .inr (0, tk_ev e))]) ([(h0, .inr (0, tk_ev (tk_start x v a c)))]) sz t) (va_A ([(h0, .inr (0, tk_ev e))]) sz)) 0 0 (va_A ([(h0, .inr (0, tk_ev e))]) sz) := by
  refine Met.ofW (cc := cX0_startFrom) (maxL := 5) (ret := none) (by decide) rfl ?_
  intro p e s m args below meth c s₁ B hml hv
  obtain ⟨rfl, hsz, hP, hK, hD0, hN⟩ := hv
  have hx := B.exec
  have hb := B.bytes
  have hr := B.returns
  have hts := atoms_spec (ws := wsX0_startFrom) B.pre
  have hm : ∀ (i : Nat) (w : Cond), wsX0_startFrom[i]? = some w → w.before _ s = true := fun i w h => hts w (List.mem_of_getElem? h)
  have hown : s.vm.findClass RX0 = some m.cls := findClass_of_methodNamed B.named
  have hlocks := B.notSynchronized
  subst hsz
  have hD := hD0.self (sz := s.heap.size)
  generalize hAe : va_A ([(h0, .inr (0, tk_ev e))]) s.heap.size = A at hD ⊢
  have hA : ∀ q : Nat, s.heap.size ≤ q → A q := fun q h => by rw [← hAe]; exact Or.inr h
  have hS : va_S A s.heap s.heap [] := va_S.rf
  have hP : va_P D vwCl ([(h0, .inr (0, tk_ev e))]) s.heap := hP
  have hl := lv_entry ([.ref h0, .int x, .int v, .int a, .int c]) (n := 5) (Nat.le_of_ble_eq_true rfl)
  rw [lg_entry_eq]
  generalize (lg_sl ([.ref h0, .int x, .int v, .int a, .int c]) ++ List.replicate (5 - (lg_sl ([.ref h0, .int x, .int v, .int a, .int c])).length) Slot.unset).toArray = ls at hl ⊢
  have hl : lv_has ls 5 [(0, .ref h0), (1, .int x), (2, .int v), (3, .int a), (4, .int c)] := hl
  refine lv_aload_n hx hb dX0_startFrom_0 rfl (lv_at hl 0 rfl) ?_
  refine lv_iload_n hx hb dX0_startFrom_1 rfl (lv_at hl 1 rfl) ?_
  refine lv_i2l hx hb dX0_startFrom_2 rfl ?_
  refine va_put (D := D) (ci := 0) (v := .long x.toInt64) (ty := .long) (C := RX0) (T := TX0) (N := 8) hx hb hts izX0_startFrom_0 tyX0 tyX0_ok nmX0 hown hK hP hD hS 0 rfl rfl 0 (by decide) (hm 1 (.fieldLink RX0 9 "TankFilter$Estimate" "level" "J") rfl) (fun _ h9 => h9) rfl (by decide +kernel) rfl rfl (Nat.le_of_ble_eq_true rfl) dX0_startFrom_3 (fun H locs hP hD hS => ?_)
  have hP : va_P D vwCl ([(h0, .inr (0, [.long x.toInt64, .long (e 1), .long (e 2), .long (e 3), .long (e 4), .long (e 5), .long (e 6), .long (e 7)]))]) H := hP
  have hD : va_D A ([(h0, .inr (0, [.long x.toInt64, .long (e 1), .long (e 2), .long (e 3), .long (e 4), .long (e 5), .long (e 6), .long (e 7)]))]) := hD
  refine lv_aload_n hx hb dX0_startFrom_6 rfl (lv_at hl 0 rfl) ?_
  refine lv_iload_n hx hb dX0_startFrom_7 rfl (lv_at hl 2 rfl) ?_
  refine lv_i2l hx hb dX0_startFrom_8 rfl ?_
  refine va_put (D := D) (ci := 0) (v := .long v.toInt64) (ty := .long) (C := RX0) (T := TX0) (N := 8) hx hb hts izX0_startFrom_0 tyX0 tyX0_ok nmX0 hown hK hP hD hS 0 rfl rfl 1 (by decide) (hm 2 (.fieldLink RX0 15 "TankFilter$Estimate" "flow" "J") rfl) (fun _ h9 => h9) rfl (by decide +kernel) rfl rfl (Nat.le_of_ble_eq_true rfl) dX0_startFrom_9 (fun H locs hP hD hS => ?_)
  have hP : va_P D vwCl ([(h0, .inr (0, [.long x.toInt64, .long v.toInt64, .long (e 2), .long (e 3), .long (e 4), .long (e 5), .long (e 6), .long (e 7)]))]) H := hP
  have hD : va_D A ([(h0, .inr (0, [.long x.toInt64, .long v.toInt64, .long (e 2), .long (e 3), .long (e 4), .long (e 5), .long (e 6), .long (e 7)]))]) := hD
  refine lv_aload_n hx hb dX0_startFrom_12 rfl (lv_at hl 0 rfl) ?_
  refine lv_iload_n hx hb dX0_startFrom_13 rfl (lv_at hl 3 rfl) ?_
  refine lv_i2l hx hb dX0_startFrom_14 rfl ?_
  refine va_put (D := D) (ci := 0) (v := .long a.toInt64) (ty := .long) (C := RX0) (T := TX0) (N := 8) hx hb hts izX0_startFrom_0 tyX0 tyX0_ok nmX0 hown hK hP hD hS 0 rfl rfl 2 (by decide) (hm 3 (.fieldLink RX0 20 "TankFilter$Estimate" "levelVariance" "J") rfl) (fun _ h9 => h9) rfl (by decide +kernel) rfl rfl (Nat.le_of_ble_eq_true rfl) dX0_startFrom_15 (fun H locs hP hD hS => ?_)
  have hP : va_P D vwCl ([(h0, .inr (0, [.long x.toInt64, .long v.toInt64, .long a.toInt64, .long (e 3), .long (e 4), .long (e 5), .long (e 6), .long (e 7)]))]) H := hP
  have hD : va_D A ([(h0, .inr (0, [.long x.toInt64, .long v.toInt64, .long a.toInt64, .long (e 3), .long (e 4), .long (e 5), .long (e 6), .long (e 7)]))]) := hD
  refine lv_aload_n hx hb dX0_startFrom_18 rfl (lv_at hl 0 rfl) ?_
  refine lv_lconst (v := 0) hx hb dX0_startFrom_19 (by decide) ?_
  refine va_put (D := D) (ci := 0) (v := .long 0) (ty := .long) (C := RX0) (T := TX0) (N := 8) hx hb hts izX0_startFrom_0 tyX0 tyX0_ok nmX0 hown hK hP hD hS 0 rfl rfl 3 (by decide) (hm 4 (.fieldLink RX0 23 "TankFilter$Estimate" "covariance" "J") rfl) (fun _ h9 => h9) rfl (by decide +kernel) rfl rfl (Nat.le_of_ble_eq_true rfl) dX0_startFrom_20 (fun H locs hP hD hS => ?_)
  have hP : va_P D vwCl ([(h0, .inr (0, [.long x.toInt64, .long v.toInt64, .long a.toInt64, .long 0, .long (e 4), .long (e 5), .long (e 6), .long (e 7)]))]) H := hP
  have hD : va_D A ([(h0, .inr (0, [.long x.toInt64, .long v.toInt64, .long a.toInt64, .long 0, .long (e 4), .long (e 5), .long (e 6), .long (e 7)]))]) := hD
  refine lv_aload_n hx hb dX0_startFrom_23 rfl (lv_at hl 0 rfl) ?_
  refine lv_iload hx hb dX0_startFrom_24 (lv_at hl 4 rfl) ?_
  refine lv_i2l hx hb dX0_startFrom_26 rfl ?_
  refine va_put (D := D) (ci := 0) (v := .long c.toInt64) (ty := .long) (C := RX0) (T := TX0) (N := 8) hx hb hts izX0_startFrom_0 tyX0 tyX0_ok nmX0 hown hK hP hD hS 0 rfl rfl 4 (by decide) (hm 5 (.fieldLink RX0 26 "TankFilter$Estimate" "flowVariance" "J") rfl) (fun _ h9 => h9) rfl (by decide +kernel) rfl rfl (Nat.le_of_ble_eq_true rfl) dX0_startFrom_27 (fun H locs hP hD hS => ?_)
  have hP : va_P D vwCl ([(h0, .inr (0, [.long x.toInt64, .long v.toInt64, .long a.toInt64, .long 0, .long c.toInt64, .long (e 5), .long (e 6), .long (e 7)]))]) H := hP
  have hD : va_D A ([(h0, .inr (0, [.long x.toInt64, .long v.toInt64, .long a.toInt64, .long 0, .long c.toInt64, .long (e 5), .long (e 6), .long (e 7)]))]) := hD
  refine lv_aload_n hx hb dX0_startFrom_30 rfl (lv_at hl 0 rfl) ?_
  refine lv_ldc2 (v := -2000000001) hx hb hown (hm 6 (.constantLong RX0 29 (-2000000001)) rfl) dX0_startFrom_31 ?_
  refine va_put (D := D) (ci := 0) (v := .long (-2000000001)) (ty := .long) (C := RX0) (T := TX0) (N := 8) hx hb hts izX0_startFrom_0 tyX0 tyX0_ok nmX0 hown hK hP hD hS 0 rfl rfl 5 (by decide) (hm 7 (.fieldLink RX0 31 "TankFilter$Estimate" "innovation" "J") rfl) (fun _ h9 => h9) rfl (by decide +kernel) rfl rfl (Nat.le_of_ble_eq_true rfl) dX0_startFrom_34 (fun H locs hP hD hS => ?_)
  have hP : va_P D vwCl ([(h0, .inr (0, [.long x.toInt64, .long v.toInt64, .long a.toInt64, .long 0, .long c.toInt64, .long (-2000000001), .long (e 6), .long (e 7)]))]) H := hP
  have hD : va_D A ([(h0, .inr (0, [.long x.toInt64, .long v.toInt64, .long a.toInt64, .long 0, .long c.toInt64, .long (-2000000001), .long (e 6), .long (e 7)]))]) := hD
  refine lv_aload_n hx hb dX0_startFrom_37 rfl (lv_at hl 0 rfl) ?_
  refine lv_ldc2 (v := -2000000001) hx hb hown (hm 6 (.constantLong RX0 29 (-2000000001)) rfl) dX0_startFrom_38 ?_
  refine va_put (D := D) (ci := 0) (v := .long (-2000000001)) (ty := .long) (C := RX0) (T := TX0) (N := 8) hx hb hts izX0_startFrom_0 tyX0 tyX0_ok nmX0 hown hK hP hD hS 0 rfl rfl 6 (by decide) (hm 8 (.fieldLink RX0 34 "TankFilter$Estimate" "levelGain" "J") rfl) (fun _ h9 => h9) rfl (by decide +kernel) rfl rfl (Nat.le_of_ble_eq_true rfl) dX0_startFrom_41 (fun H locs hP hD hS => ?_)
  have hP : va_P D vwCl ([(h0, .inr (0, [.long x.toInt64, .long v.toInt64, .long a.toInt64, .long 0, .long c.toInt64, .long (-2000000001), .long (-2000000001), .long (e 7)]))]) H := hP
  have hD : va_D A ([(h0, .inr (0, [.long x.toInt64, .long v.toInt64, .long a.toInt64, .long 0, .long c.toInt64, .long (-2000000001), .long (-2000000001), .long (e 7)]))]) := hD
  refine lv_aload_n hx hb dX0_startFrom_44 rfl (lv_at hl 0 rfl) ?_
  refine lv_ldc2 (v := -2000000001) hx hb hown (hm 6 (.constantLong RX0 29 (-2000000001)) rfl) dX0_startFrom_45 ?_
  refine va_put (D := D) (ci := 0) (v := .long (-2000000001)) (ty := .long) (C := RX0) (T := TX0) (N := 8) hx hb hts izX0_startFrom_0 tyX0 tyX0_ok nmX0 hown hK hP hD hS 0 rfl rfl 7 (by decide) (hm 9 (.fieldLink RX0 37 "TankFilter$Estimate" "flowGain" "J") rfl) (fun _ h9 => h9) rfl (by decide +kernel) rfl rfl (Nat.le_of_ble_eq_true rfl) dX0_startFrom_48 (fun H locs hP hD hS => ?_)
  have hP : va_P D vwCl ([(h0, .inr (0, [.long x.toInt64, .long v.toInt64, .long a.toInt64, .long 0, .long c.toInt64, .long (-2000000001), .long (-2000000001), .long (-2000000001)]))]) H := hP
  have hD : va_D A ([(h0, .inr (0, [.long x.toInt64, .long v.toInt64, .long a.toInt64, .long 0, .long c.toInt64, .long (-2000000001), .long (-2000000001), .long (-2000000001)]))]) := hD
  exact W.vret hx hb hr (fun t ht hW => ⟨⟨(), rfl, trivial, KB.of hAe (by rw [ht]; exact hP) hD⟩, hS.F ht⟩) hS.2.2 dX0_startFrom_51

def tk_h (h v : Int64) : Int64 := 31 * h + v

theorem izX0_mixStateInto_0 : ∀ w ∈ wsX00, w ∈ wsX0_mixStateInto := fun _ h => List.mem_cons_of_mem _ (List.mem_append_right _ h)
set_option maxHeartbeats 4000000 in
set_option maxRecDepth 100000 in
/-- mixStateInto -/
theorem k_X0_mixStateInto (l : Launch) (D : va_G) (cI cM cJ : ClassId) (sz : Nat) (h0 : Nat) (e : Nat → Int64) (h : Int64) : Met l yX0_mixStateInto wsX0_mixStateInto ({ frames := 1, cells := 0, slots := 0, locals := 23 }) (va_Pc [.ref h0, .long h] (KP D (tk_T cI cM cJ) ([(h0, .inr (0, tk_ev e))]) sz)) (va_Ql (fun (r : Int64) (u : Unit) => r = tk_h (tk_h (tk_h (tk_h (tk_h h (e 0)) (e 1)) (e 2)) (e 3)) (e 4)) (fun u t => KB D ([(h0, .inr (0, tk_ev e))]) ([(h0, .inr (0, tk_ev e))]) sz t) (va_A ([(h0, .inr (0, tk_ev e))]) sz)) 0 0 (va_A ([(h0, .inr (0, tk_ev e))]) sz) := by
  refine Met.ofW (cc := cX0_mixStateInto) (maxL := 3) (ret := (some .long)) (by decide) rfl ?_
  intro p e s m args below meth c s₁ B hml hv
  obtain ⟨rfl, hsz, hP, hK, hD0, hN⟩ := hv
  have hx := B.exec
  have hb := B.bytes
  have hr := B.returns
  have hts := atoms_spec (ws := wsX0_mixStateInto) B.pre
  have hm : ∀ (i : Nat) (w : Cond), wsX0_mixStateInto[i]? = some w → w.before _ s = true := fun i w h => hts w (List.mem_of_getElem? h)
  have hown : s.vm.findClass RX0 = some m.cls := findClass_of_methodNamed B.named
  have hlocks := B.notSynchronized
  subst hsz
  have hD := hD0.self (sz := s.heap.size)
  generalize hAe : va_A ([(h0, .inr (0, tk_ev e))]) s.heap.size = A at hD ⊢
  have hA : ∀ q : Nat, s.heap.size ≤ q → A q := fun q h => by rw [← hAe]; exact Or.inr h
  have hS : va_S A s.heap s.heap [] := va_S.rf
  have hP : va_P D vwCl ([(h0, .inr (0, tk_ev e))]) s.heap := hP
  have hl := lv_entry ([.ref h0, .long h]) (n := 3) (Nat.le_of_ble_eq_true rfl)
  rw [lg_entry_eq]
  generalize (lg_sl ([.ref h0, .long h]) ++ List.replicate (3 - (lg_sl ([.ref h0, .long h])).length) Slot.unset).toArray = ls at hl ⊢
  have hl : lv_has ls 3 [(0, .ref h0), (1, .long h)] := hl
  refine lv_lload_n hx hb dX0_mixStateInto_0 rfl (lv_at hl 1 rfl) ?_
  refine lv_aload_n hx hb dX0_mixStateInto_1 rfl (lv_at hl 0 rfl) ?_
  refine va_get (D := D) (ci := 0) (v := .long (e 0)) (C := RX0) (T := TX0) (N := 8) hx hb hts izX0_mixStateInto_0 hown hK hP 0 rfl rfl 0 (by decide) (hm 1 (.fieldLink RX0 9 "TankFilter$Estimate" "level" "J") rfl) (fun _ h9 => h9) rfl dX0_mixStateInto_2 ?_
  refine kc_l (wc := []) (wr := [(h0, .inr (0, tk_ev e))]) (va_runSN (As := [.long h, .long (e 0)]) (rest := []) ⟨hx, hb, hml, hown, hts⟩ (k_X3_mix l D cI cM cJ H.size h (e 0)) ⟨va_cnB 2 hts gX0_mixStateInto_X3_mix_n67 rfl rfl rfl (hN.at 43 rfl) (hm 7 (.initialized RX3) rfl) (by decide +kernel) ⟨Nat.le_of_ble_eq_true rfl, Nat.le_of_ble_eq_true rfl⟩, (hm 6 (.static yX3_mix) rfl), trivial⟩ (kp_preS hN hK hP hD) rfl rfl hl.1 rfl (lv_room (Nat.le_of_ble_eq_true rfl)) dX0_mixStateInto_5 ⟨Nat.le_of_ble_eq_true rfl, Nat.le_of_ble_eq_true rfl⟩) hP hD hS hA (fun r_1 u_1 H locs p_1 hP hD hS => ?_)
  obtain rfl : r_1 = 31 * h + (e 0) := p_1
  have hP : va_P D vwCl ([(h0, .inr (0, tk_ev e))]) H := hP
  have hD : va_D A ([(h0, .inr (0, tk_ev e))]) := hD
  refine lv_lstore_n (lv' := [(1, .long (31 * h + (e 0))), (0, .ref h0)]) hx hb dX0_mixStateInto_8 rfl hl (by decide) rfl (fun ls hl => ?_)
  refine lv_lload_n hx hb dX0_mixStateInto_9 rfl (lv_at hl 0 rfl) ?_
  refine lv_aload_n hx hb dX0_mixStateInto_10 rfl (lv_at hl 1 rfl) ?_
  refine va_get (D := D) (ci := 0) (v := .long (e 1)) (C := RX0) (T := TX0) (N := 8) hx hb hts izX0_mixStateInto_0 hown hK hP 0 rfl rfl 1 (by decide) (hm 2 (.fieldLink RX0 15 "TankFilter$Estimate" "flow" "J") rfl) (fun _ h9 => h9) rfl dX0_mixStateInto_11 ?_
  refine kc_l (wc := []) (wr := [(h0, .inr (0, tk_ev e))]) (va_runSN (As := [.long (31 * h + (e 0)), .long (e 1)]) (rest := []) ⟨hx, hb, hml, hown, hts⟩ (k_X3_mix l D cI cM cJ H.size (31 * h + (e 0)) (e 1)) ⟨va_cnB 2 hts gX0_mixStateInto_X3_mix_n67 rfl rfl rfl (hN.at 43 rfl) (hm 7 (.initialized RX3) rfl) (by decide +kernel) ⟨Nat.le_of_ble_eq_true rfl, Nat.le_of_ble_eq_true rfl⟩, (hm 6 (.static yX3_mix) rfl), trivial⟩ (kp_preS hN hK hP hD) rfl rfl hl.1 rfl (lv_room (Nat.le_of_ble_eq_true rfl)) dX0_mixStateInto_14 ⟨Nat.le_of_ble_eq_true rfl, Nat.le_of_ble_eq_true rfl⟩) hP hD hS hA (fun r_2 u_2 H locs p_2 hP hD hS => ?_)
  obtain rfl : r_2 = 31 * (31 * h + (e 0)) + (e 1) := p_2
  have hP : va_P D vwCl ([(h0, .inr (0, tk_ev e))]) H := hP
  have hD : va_D A ([(h0, .inr (0, tk_ev e))]) := hD
  refine lv_lstore_n (lv' := [(1, .long (31 * (31 * h + (e 0)) + (e 1))), (0, .ref h0)]) hx hb dX0_mixStateInto_17 rfl hl (by decide) rfl (fun ls hl => ?_)
  refine lv_lload_n hx hb dX0_mixStateInto_18 rfl (lv_at hl 0 rfl) ?_
  refine lv_aload_n hx hb dX0_mixStateInto_19 rfl (lv_at hl 1 rfl) ?_
  refine va_get (D := D) (ci := 0) (v := .long (e 2)) (C := RX0) (T := TX0) (N := 8) hx hb hts izX0_mixStateInto_0 hown hK hP 0 rfl rfl 2 (by decide) (hm 3 (.fieldLink RX0 20 "TankFilter$Estimate" "levelVariance" "J") rfl) (fun _ h9 => h9) rfl dX0_mixStateInto_20 ?_
  refine kc_l (wc := []) (wr := [(h0, .inr (0, tk_ev e))]) (va_runSN (As := [.long (31 * (31 * h + (e 0)) + (e 1)), .long (e 2)]) (rest := []) ⟨hx, hb, hml, hown, hts⟩ (k_X3_mix l D cI cM cJ H.size (31 * (31 * h + (e 0)) + (e 1)) (e 2)) ⟨va_cnB 2 hts gX0_mixStateInto_X3_mix_n67 rfl rfl rfl (hN.at 43 rfl) (hm 7 (.initialized RX3) rfl) (by decide +kernel) ⟨Nat.le_of_ble_eq_true rfl, Nat.le_of_ble_eq_true rfl⟩, (hm 6 (.static yX3_mix) rfl), trivial⟩ (kp_preS hN hK hP hD) rfl rfl hl.1 rfl (lv_room (Nat.le_of_ble_eq_true rfl)) dX0_mixStateInto_23 ⟨Nat.le_of_ble_eq_true rfl, Nat.le_of_ble_eq_true rfl⟩) hP hD hS hA (fun r_3 u_3 H locs p_3 hP hD hS => ?_)
  obtain rfl : r_3 = 31 * (31 * (31 * h + (e 0)) + (e 1)) + (e 2) := p_3
  have hP : va_P D vwCl ([(h0, .inr (0, tk_ev e))]) H := hP
  have hD : va_D A ([(h0, .inr (0, tk_ev e))]) := hD
  refine lv_lstore_n (lv' := [(1, .long (31 * (31 * (31 * h + (e 0)) + (e 1)) + (e 2))), (0, .ref h0)]) hx hb dX0_mixStateInto_26 rfl hl (by decide) rfl (fun ls hl => ?_)
  refine lv_lload_n hx hb dX0_mixStateInto_27 rfl (lv_at hl 0 rfl) ?_
  refine lv_aload_n hx hb dX0_mixStateInto_28 rfl (lv_at hl 1 rfl) ?_
  refine va_get (D := D) (ci := 0) (v := .long (e 3)) (C := RX0) (T := TX0) (N := 8) hx hb hts izX0_mixStateInto_0 hown hK hP 0 rfl rfl 3 (by decide) (hm 4 (.fieldLink RX0 23 "TankFilter$Estimate" "covariance" "J") rfl) (fun _ h9 => h9) rfl dX0_mixStateInto_29 ?_
  refine kc_l (wc := []) (wr := [(h0, .inr (0, tk_ev e))]) (va_runSN (As := [.long (31 * (31 * (31 * h + (e 0)) + (e 1)) + (e 2)), .long (e 3)]) (rest := []) ⟨hx, hb, hml, hown, hts⟩ (k_X3_mix l D cI cM cJ H.size (31 * (31 * (31 * h + (e 0)) + (e 1)) + (e 2)) (e 3)) ⟨va_cnB 2 hts gX0_mixStateInto_X3_mix_n67 rfl rfl rfl (hN.at 43 rfl) (hm 7 (.initialized RX3) rfl) (by decide +kernel) ⟨Nat.le_of_ble_eq_true rfl, Nat.le_of_ble_eq_true rfl⟩, (hm 6 (.static yX3_mix) rfl), trivial⟩ (kp_preS hN hK hP hD) rfl rfl hl.1 rfl (lv_room (Nat.le_of_ble_eq_true rfl)) dX0_mixStateInto_32 ⟨Nat.le_of_ble_eq_true rfl, Nat.le_of_ble_eq_true rfl⟩) hP hD hS hA (fun r_4 u_4 H locs p_4 hP hD hS => ?_)
  obtain rfl : r_4 = 31 * (31 * (31 * (31 * h + (e 0)) + (e 1)) + (e 2)) + (e 3) := p_4
  have hP : va_P D vwCl ([(h0, .inr (0, tk_ev e))]) H := hP
  have hD : va_D A ([(h0, .inr (0, tk_ev e))]) := hD
  refine lv_lstore_n (lv' := [(1, .long (31 * (31 * (31 * (31 * h + (e 0)) + (e 1)) + (e 2)) + (e 3))), (0, .ref h0)]) hx hb dX0_mixStateInto_35 rfl hl (by decide) rfl (fun ls hl => ?_)
  refine lv_lload_n hx hb dX0_mixStateInto_36 rfl (lv_at hl 0 rfl) ?_
  refine lv_aload_n hx hb dX0_mixStateInto_37 rfl (lv_at hl 1 rfl) ?_
  refine va_get (D := D) (ci := 0) (v := .long (e 4)) (C := RX0) (T := TX0) (N := 8) hx hb hts izX0_mixStateInto_0 hown hK hP 0 rfl rfl 4 (by decide) (hm 5 (.fieldLink RX0 26 "TankFilter$Estimate" "flowVariance" "J") rfl) (fun _ h9 => h9) rfl dX0_mixStateInto_38 ?_
  refine kc_l (wc := []) (wr := [(h0, .inr (0, tk_ev e))]) (va_runSN (As := [.long (31 * (31 * (31 * (31 * h + (e 0)) + (e 1)) + (e 2)) + (e 3)), .long (e 4)]) (rest := []) ⟨hx, hb, hml, hown, hts⟩ (k_X3_mix l D cI cM cJ H.size (31 * (31 * (31 * (31 * h + (e 0)) + (e 1)) + (e 2)) + (e 3)) (e 4)) ⟨va_cnB 2 hts gX0_mixStateInto_X3_mix_n67 rfl rfl rfl (hN.at 43 rfl) (hm 7 (.initialized RX3) rfl) (by decide +kernel) ⟨Nat.le_of_ble_eq_true rfl, Nat.le_of_ble_eq_true rfl⟩, (hm 6 (.static yX3_mix) rfl), trivial⟩ (kp_preS hN hK hP hD) rfl rfl hl.1 rfl (lv_room (Nat.le_of_ble_eq_true rfl)) dX0_mixStateInto_41 ⟨Nat.le_of_ble_eq_true rfl, Nat.le_of_ble_eq_true rfl⟩) hP hD hS hA (fun r_5 u_5 H locs p_5 hP hD hS => ?_)
  obtain rfl : r_5 = 31 * (31 * (31 * (31 * (31 * h + (e 0)) + (e 1)) + (e 2)) + (e 3)) + (e 4) := p_5
  have hP : va_P D vwCl ([(h0, .inr (0, tk_ev e))]) H := hP
  have hD : va_D A ([(h0, .inr (0, tk_ev e))]) := hD
  exact W.lret (v := 31 * (31 * (31 * (31 * (31 * h + (e 0)) + (e 1)) + (e 2)) + (e 3)) + (e 4)) hx hb hr (fun t ht hW => ⟨⟨31 * (31 * (31 * (31 * (31 * h + (e 0)) + (e 1)) + (e 2)) + (e 3)) + (e 4), (), rfl, rfl, KB.of hAe (by rw [ht]; exact hP) hD⟩, hS.F ht⟩) hS.2.2 dX0_mixStateInto_44

theorem izX0_mixLatestReadingInto_0 : ∀ w ∈ wsX00, w ∈ wsX0_mixLatestReadingInto := fun _ h => List.mem_cons_of_mem _ (List.mem_append_right _ h)
set_option maxHeartbeats 4000000 in
set_option maxRecDepth 100000 in
/-- mixLatestReadingInto -/
theorem k_X0_mixLatestReadingInto (l : Launch) (D : va_G) (cI cM cJ : ClassId) (sz : Nat) (h0 : Nat) (e : Nat → Int64) (h : Int64) : Met l yX0_mixLatestReadingInto wsX0_mixLatestReadingInto ({ frames := 1, cells := 0, slots := 0, locals := 23 }) (va_Pc [.ref h0, .long h] (KP D (tk_T cI cM cJ) ([(h0, .inr (0, tk_ev e))]) sz)) (va_Ql (fun (r : Int64) (u : Unit) => r = tk_h (tk_h (tk_h h (e 5)) (e 6)) (e 7)) (fun u t => KB D ([(h0, .inr (0, tk_ev e))]) ([(h0, .inr (0, tk_ev e))]) sz t) (va_A ([(h0, .inr (0, tk_ev e))]) sz)) 0 0 (va_A ([(h0, .inr (0, tk_ev e))]) sz) := by
  refine Met.ofW (cc := cX0_mixLatestReadingInto) (maxL := 3) (ret := (some .long)) (by decide) rfl ?_
  intro p e s m args below meth c s₁ B hml hv
  obtain ⟨rfl, hsz, hP, hK, hD0, hN⟩ := hv
  have hx := B.exec
  have hb := B.bytes
  have hr := B.returns
  have hts := atoms_spec (ws := wsX0_mixLatestReadingInto) B.pre
  have hm : ∀ (i : Nat) (w : Cond), wsX0_mixLatestReadingInto[i]? = some w → w.before _ s = true := fun i w h => hts w (List.mem_of_getElem? h)
  have hown : s.vm.findClass RX0 = some m.cls := findClass_of_methodNamed B.named
  have hlocks := B.notSynchronized
  subst hsz
  have hD := hD0.self (sz := s.heap.size)
  generalize hAe : va_A ([(h0, .inr (0, tk_ev e))]) s.heap.size = A at hD ⊢
  have hA : ∀ q : Nat, s.heap.size ≤ q → A q := fun q h => by rw [← hAe]; exact Or.inr h
  have hS : va_S A s.heap s.heap [] := va_S.rf
  have hP : va_P D vwCl ([(h0, .inr (0, tk_ev e))]) s.heap := hP
  have hl := lv_entry ([.ref h0, .long h]) (n := 3) (Nat.le_of_ble_eq_true rfl)
  rw [lg_entry_eq]
  generalize (lg_sl ([.ref h0, .long h]) ++ List.replicate (3 - (lg_sl ([.ref h0, .long h])).length) Slot.unset).toArray = ls at hl ⊢
  have hl : lv_has ls 3 [(0, .ref h0), (1, .long h)] := hl
  refine lv_lload_n hx hb dX0_mixLatestReadingInto_0 rfl (lv_at hl 1 rfl) ?_
  refine lv_aload_n hx hb dX0_mixLatestReadingInto_1 rfl (lv_at hl 0 rfl) ?_
  refine va_get (D := D) (ci := 0) (v := .long (e 5)) (C := RX0) (T := TX0) (N := 8) hx hb hts izX0_mixLatestReadingInto_0 hown hK hP 0 rfl rfl 5 (by decide) (hm 1 (.fieldLink RX0 31 "TankFilter$Estimate" "innovation" "J") rfl) (fun _ h9 => h9) rfl dX0_mixLatestReadingInto_2 ?_
  refine kc_l (wc := []) (wr := [(h0, .inr (0, tk_ev e))]) (va_runSN (As := [.long h, .long (e 5)]) (rest := []) ⟨hx, hb, hml, hown, hts⟩ (k_X3_mix l D cI cM cJ H.size h (e 5)) ⟨va_cnB 2 hts gX0_mixLatestReadingInto_X3_mix_n67 rfl rfl rfl (hN.at 43 rfl) (hm 5 (.initialized RX3) rfl) (by decide +kernel) ⟨Nat.le_of_ble_eq_true rfl, Nat.le_of_ble_eq_true rfl⟩, (hm 4 (.static yX3_mix) rfl), trivial⟩ (kp_preS hN hK hP hD) rfl rfl hl.1 rfl (lv_room (Nat.le_of_ble_eq_true rfl)) dX0_mixLatestReadingInto_5 ⟨Nat.le_of_ble_eq_true rfl, Nat.le_of_ble_eq_true rfl⟩) hP hD hS hA (fun r_1 u_1 H locs p_1 hP hD hS => ?_)
  obtain rfl : r_1 = 31 * h + (e 5) := p_1
  have hP : va_P D vwCl ([(h0, .inr (0, tk_ev e))]) H := hP
  have hD : va_D A ([(h0, .inr (0, tk_ev e))]) := hD
  refine lv_lstore_n (lv' := [(1, .long (31 * h + (e 5))), (0, .ref h0)]) hx hb dX0_mixLatestReadingInto_8 rfl hl (by decide) rfl (fun ls hl => ?_)
  refine lv_lload_n hx hb dX0_mixLatestReadingInto_9 rfl (lv_at hl 0 rfl) ?_
  refine lv_aload_n hx hb dX0_mixLatestReadingInto_10 rfl (lv_at hl 1 rfl) ?_
  refine va_get (D := D) (ci := 0) (v := .long (e 6)) (C := RX0) (T := TX0) (N := 8) hx hb hts izX0_mixLatestReadingInto_0 hown hK hP 0 rfl rfl 6 (by decide) (hm 2 (.fieldLink RX0 34 "TankFilter$Estimate" "levelGain" "J") rfl) (fun _ h9 => h9) rfl dX0_mixLatestReadingInto_11 ?_
  refine kc_l (wc := []) (wr := [(h0, .inr (0, tk_ev e))]) (va_runSN (As := [.long (31 * h + (e 5)), .long (e 6)]) (rest := []) ⟨hx, hb, hml, hown, hts⟩ (k_X3_mix l D cI cM cJ H.size (31 * h + (e 5)) (e 6)) ⟨va_cnB 2 hts gX0_mixLatestReadingInto_X3_mix_n67 rfl rfl rfl (hN.at 43 rfl) (hm 5 (.initialized RX3) rfl) (by decide +kernel) ⟨Nat.le_of_ble_eq_true rfl, Nat.le_of_ble_eq_true rfl⟩, (hm 4 (.static yX3_mix) rfl), trivial⟩ (kp_preS hN hK hP hD) rfl rfl hl.1 rfl (lv_room (Nat.le_of_ble_eq_true rfl)) dX0_mixLatestReadingInto_14 ⟨Nat.le_of_ble_eq_true rfl, Nat.le_of_ble_eq_true rfl⟩) hP hD hS hA (fun r_2 u_2 H locs p_2 hP hD hS => ?_)
  obtain rfl : r_2 = 31 * (31 * h + (e 5)) + (e 6) := p_2
  have hP : va_P D vwCl ([(h0, .inr (0, tk_ev e))]) H := hP
  have hD : va_D A ([(h0, .inr (0, tk_ev e))]) := hD
  refine lv_lstore_n (lv' := [(1, .long (31 * (31 * h + (e 5)) + (e 6))), (0, .ref h0)]) hx hb dX0_mixLatestReadingInto_17 rfl hl (by decide) rfl (fun ls hl => ?_)
  refine lv_lload_n hx hb dX0_mixLatestReadingInto_18 rfl (lv_at hl 0 rfl) ?_
  refine lv_aload_n hx hb dX0_mixLatestReadingInto_19 rfl (lv_at hl 1 rfl) ?_
  refine va_get (D := D) (ci := 0) (v := .long (e 7)) (C := RX0) (T := TX0) (N := 8) hx hb hts izX0_mixLatestReadingInto_0 hown hK hP 0 rfl rfl 7 (by decide) (hm 3 (.fieldLink RX0 37 "TankFilter$Estimate" "flowGain" "J") rfl) (fun _ h9 => h9) rfl dX0_mixLatestReadingInto_20 ?_
  refine kc_l (wc := []) (wr := [(h0, .inr (0, tk_ev e))]) (va_runSN (As := [.long (31 * (31 * h + (e 5)) + (e 6)), .long (e 7)]) (rest := []) ⟨hx, hb, hml, hown, hts⟩ (k_X3_mix l D cI cM cJ H.size (31 * (31 * h + (e 5)) + (e 6)) (e 7)) ⟨va_cnB 2 hts gX0_mixLatestReadingInto_X3_mix_n67 rfl rfl rfl (hN.at 43 rfl) (hm 5 (.initialized RX3) rfl) (by decide +kernel) ⟨Nat.le_of_ble_eq_true rfl, Nat.le_of_ble_eq_true rfl⟩, (hm 4 (.static yX3_mix) rfl), trivial⟩ (kp_preS hN hK hP hD) rfl rfl hl.1 rfl (lv_room (Nat.le_of_ble_eq_true rfl)) dX0_mixLatestReadingInto_23 ⟨Nat.le_of_ble_eq_true rfl, Nat.le_of_ble_eq_true rfl⟩) hP hD hS hA (fun r_3 u_3 H locs p_3 hP hD hS => ?_)
  obtain rfl : r_3 = 31 * (31 * (31 * h + (e 5)) + (e 6)) + (e 7) := p_3
  have hP : va_P D vwCl ([(h0, .inr (0, tk_ev e))]) H := hP
  have hD : va_D A ([(h0, .inr (0, tk_ev e))]) := hD
  exact W.lret (v := 31 * (31 * (31 * h + (e 5)) + (e 6)) + (e 7)) hx hb hr (fun t ht hW => ⟨⟨31 * (31 * (31 * h + (e 5)) + (e 6)) + (e 7), (), rfl, rfl, KB.of hAe (by rw [ht]; exact hP) hD⟩, hS.F ht⟩) hS.2.2 dX0_mixLatestReadingInto_26
