theorem izX0_mean_0 : ∀ w ∈ wsX00, w ∈ wsX0_mean := fun _ h => List.mem_cons_of_mem _ (List.mem_append_right _ h)
set_option maxHeartbeats 4000000 in
set_option maxRecDepth 100000 in
/-- mean -/
theorem k_X0_mean (l : Launch) (D : va_G) (cI cM cJ : ClassId) (sz : Nat) (h0 : Nat) (e : Nat → Int64) (kd : Int32) : Met l yX0_mean wsX0_mean ({ frames := 0, cells := 0, slots := 0, locals := 0 }) (va_Pc [.ref h0, .int kd] (KP D (tk_T cI cM cJ) ([(h0, .inr (0, tk_ev e))]) sz)) (va_Ql (fun (r : Int64) (u : Unit) => r = co_m e kd) (fun u zt => KB D ([(h0, .inr (0, tk_ev e))]) ([(h0, .inr (0, tk_ev e))]) sz zt) (va_A ([(h0, .inr (0, tk_ev e))]) sz)) 0 0 (va_A ([(h0, .inr (0, tk_ev e))]) sz) := by
  refine Met.ofW (cc := cX0_mean) (maxL := 2) (ret := (some .long)) (by decide) rfl ?_
  intro zp ze zs zm zargs zbelow zmeth zc zs1 B hml hv
  obtain ⟨rfl, hsz, hP, hK, hD0, hN⟩ := hv
  have hx := B.exec
  have hb := B.bytes
  have hr := B.returns
  have hts := atoms_spec (ws := wsX0_mean) B.pre
  have hm : ∀ (i : Nat) (w : Cond), wsX0_mean[i]? = some w → w.before _ zs = true := fun i w h => hts w (List.mem_of_getElem? h)
  have hown : zs.vm.findClass RX0 = some zm.cls := findClass_of_methodNamed B.named
  have hlocks := B.notSynchronized
  subst hsz
  have hD := hD0.self (sz := zs.heap.size)
  generalize hAe : va_A ([(h0, .inr (0, tk_ev e))]) zs.heap.size = A at hD ⊢
  have hA : ∀ q : Nat, zs.heap.size ≤ q → A q := fun q h => by rw [← hAe]; exact Or.inr h
  have hS : va_S A zs.heap zs.heap [] := va_S.rf
  have hP : va_P D vwCl ([(h0, .inr (0, tk_ev e))]) zs.heap := hP
  have hl := lv_entry ([.ref h0, .int kd]) (n := 2) (Nat.le_of_ble_eq_true rfl)
  rw [lg_entry_eq]
  generalize (lg_sl ([.ref h0, .int kd]) ++ List.replicate (2 - (lg_sl ([.ref h0, .int kd])).length) Slot.unset).toArray = ls at hl ⊢
  have hl : lv_has ls 2 [(0, .ref h0), (1, .int kd)] := hl
  refine lv_iload_n hx hb dX0_mean_0 rfl (lv_at hl 1 rfl) ?_
  refine lv_if_ne (tgt := 11) hx hb dX0_mean_1 (by decide) (fun c_1 => ?_) (fun c_1 => ?_)
  · skip
    refine lv_aload_n hx hb dX0_mean_11 rfl (lv_at hl 0 rfl) ?_
    refine va_get (D := D) (ci := 0) (v := .long (e 1)) (C := RX0) (T := TX0) (N := 8) hx hb hts izX0_mean_0 hown hK hP 0 rfl rfl 1 (by decide) (hm 2 (.fieldLink RX0 15 "TankFilter$Estimate" "flow" "J") rfl) (fun _ h9 => h9) rfl dX0_mean_12 ?_
    exact W.lret (v := e 1) hx hb hr (fun zt ht hW => ⟨⟨e 1, (), rfl, (co_m1 c_1).symm, KB.of hAe (by rw [ht]; exact hP) hD⟩, hS.F ht⟩) hS.2.2 dX0_mean_15
  · skip
    refine lv_aload_n hx hb dX0_mean_4 rfl (lv_at hl 0 rfl) ?_
    refine va_get (D := D) (ci := 0) (v := .long (e 0)) (C := RX0) (T := TX0) (N := 8) hx hb hts izX0_mean_0 hown hK hP 0 rfl rfl 0 (by decide) (hm 1 (.fieldLink RX0 9 "TankFilter$Estimate" "level" "J") rfl) (fun _ h9 => h9) rfl dX0_mean_5 ?_
    refine lv_goto (tgt := 15) hx hb dX0_mean_8 (by decide) ?_
    exact W.lret (v := e 0) hx hb hr (fun zt ht hW => ⟨⟨e 0, (), rfl, (co_m0 c_1).symm, KB.of hAe (by rw [ht]; exact hP) hD⟩, hS.F ht⟩) hS.2.2 dX0_mean_15

theorem izX0_move_0 : ∀ w ∈ wsX00, w ∈ wsX0_move := fun _ h => List.mem_cons_of_mem _ (List.mem_append_right _ h)
set_option maxHeartbeats 4000000 in
set_option maxRecDepth 100000 in
/-- move -/
theorem k_X0_move (l : Launch) (D : va_G) (cI cM cJ : ClassId) (sz : Nat) (h0 : Nat) (e : Nat → Int64) (x v a b c : Int64) : Met l yX0_move wsX0_move ({ frames := 1, cells := 0, slots := 0, locals := 21 }) (va_Pc [.ref h0, .long x, .long v, .long a, .long b, .long c] (KP D (tk_T cI cM cJ) ([(h0, .inr (0, tk_ev e))]) sz)) (va_Qi (fun (r : Int32) (u : Nat → Int64) => (tk_mok x v a b c = true ∧ r = 1 ∧ u = tk_mv e x v a b c) ∨ (tk_mok x v a b c = false ∧ r = 0 ∧ e = u)) (fun u zt => KB D ([(h0, .inr (0, tk_ev e))]) ([(h0, .inr (0, tk_ev u))]) sz zt) (va_A ([(h0, .inr (0, tk_ev e))]) sz)) 0 0 (va_A ([(h0, .inr (0, tk_ev e))]) sz) := by
  refine Met.ofW (cc := cX0_move) (maxL := 15) (ret := (some .boolean)) (by decide) rfl ?_
  intro zp ze zs zm zargs zbelow zmeth zc zs1 B hml hv
  obtain ⟨rfl, hsz, hP, hK, hD0, hN⟩ := hv
  have hx := B.exec
  have hb := B.bytes
  have hr := B.returns
  have hts := atoms_spec (ws := wsX0_move) B.pre
  have hm : ∀ (i : Nat) (w : Cond), wsX0_move[i]? = some w → w.before _ zs = true := fun i w h => hts w (List.mem_of_getElem? h)
  have hown : zs.vm.findClass RX0 = some zm.cls := findClass_of_methodNamed B.named
  have hlocks := B.notSynchronized
  subst hsz
  have hD := hD0.self (sz := zs.heap.size)
  generalize hAe : va_A ([(h0, .inr (0, tk_ev e))]) zs.heap.size = A at hD ⊢
  have hA : ∀ q : Nat, zs.heap.size ≤ q → A q := fun q h => by rw [← hAe]; exact Or.inr h
  have hS : va_S A zs.heap zs.heap [] := va_S.rf
  have hP : va_P D vwCl ([(h0, .inr (0, tk_ev e))]) zs.heap := hP
  have hl := lv_entry ([.ref h0, .long x, .long v, .long a, .long b, .long c]) (n := 15) (Nat.le_of_ble_eq_true rfl)
  rw [lg_entry_eq]
  generalize (lg_sl ([.ref h0, .long x, .long v, .long a, .long b, .long c]) ++ List.replicate (15 - (lg_sl ([.ref h0, .long x, .long v, .long a, .long b, .long c])).length) Slot.unset).toArray = ls at hl ⊢
  have hl : lv_has ls 15 [(0, .ref h0), (1, .long x), (3, .long v), (5, .long a), (7, .long b), (9, .long c)] := hl
  refine lv_lload hx hb dX0_move_0 (lv_at hl 3 rfl) ?_
  refine lv_lconst (v := 0) hx hb dX0_move_2 (by decide) ?_
  refine va_mmax_long hx hb (hml.trans hl.1.symm) hown (hm 1 (.methodLink RX0 62 Lib.MathLoose.max_long.x) rfl) (hm 2 (.static Lib.MathLoose.max_long.x) rfl) (hm 3 (.initialized "java/lang/Math") rfl) (hm 4 (.code Lib.MathLoose.max_long.x Lib.MathLoose.max_long.code 4 (some .long)) rfl) (Nat.le_of_ble_eq_true rfl) (Nat.le_of_ble_eq_true rfl) (Nat.le_of_ble_eq_true rfl) (Nat.le_of_ble_eq_true rfl) dX0_move_3 ?_
  refine lv_lstore (lv' := [(11, .long (if 0 < a then a else 0)), (0, .ref h0), (1, .long x), (3, .long v), (5, .long a), (7, .long b), (9, .long c)]) hx hb dX0_move_6 hl (by decide) rfl (fun ls hl => ?_)
  refine lv_lload hx hb dX0_move_8 (lv_at hl 6 rfl) ?_
  refine lv_lconst (v := 0) hx hb dX0_move_10 (by decide) ?_
  refine va_mmax_long hx hb (hml.trans hl.1.symm) hown (hm 1 (.methodLink RX0 62 Lib.MathLoose.max_long.x) rfl) (hm 2 (.static Lib.MathLoose.max_long.x) rfl) (hm 3 (.initialized "java/lang/Math") rfl) (hm 4 (.code Lib.MathLoose.max_long.x Lib.MathLoose.max_long.code 4 (some .long)) rfl) (Nat.le_of_ble_eq_true rfl) (Nat.le_of_ble_eq_true rfl) (Nat.le_of_ble_eq_true rfl) (Nat.le_of_ble_eq_true rfl) dX0_move_11 ?_
  refine lv_lstore (lv' := [(13, .long (if 0 < c then c else 0)), (11, .long (if 0 < a then a else 0)), (0, .ref h0), (1, .long x), (3, .long v), (5, .long a), (7, .long b), (9, .long c)]) hx hb dX0_move_14 hl (by decide) rfl (fun ls hl => ?_)
  refine lv_lload_n hx hb dX0_move_16 rfl (lv_at hl 3 rfl) ?_
  refine kc_i (wc := []) (wr := [(h0, .inr (0, tk_ev e))]) (va_runSN (As := [.long x]) (rest := []) ⟨hx, hb, hml, hown, hts⟩ (k_X3_isInLimit l D cI cM cJ _ x) ⟨va_cnB 1 hts gX0_move_X3_isInLimit_n54 rfl rfl rfl (hN.at 34 rfl) (hm 11 (.initialized RX3) rfl) (by decide +kernel) ⟨Nat.le_of_ble_eq_true rfl, Nat.le_of_ble_eq_true rfl⟩, (hm 10 (.static yX3_isInLimit) rfl), trivial⟩ (kp_preS (wc := []) (wr := [(h0, .inr (0, tk_ev e))]) hN hK hP hD) rfl rfl hl.1 rfl (lv_room (Nat.le_of_ble_eq_true rfl)) dX0_move_17 ⟨Nat.le_of_ble_eq_true rfl, Nat.le_of_ble_eq_true rfl⟩) hP hD hS hA (fun r_1 u_1 H locs p_1 hP hD hS => ?_)
  rcases p_1 with ⟨p_1, rfl⟩ | ⟨p_1, rfl⟩
  · have hP : va_P D vwCl ([(h0, .inr (0, tk_ev e))]) H := hP
    have hD : va_D A ([(h0, .inr (0, tk_ev e))]) := hD
    refine lv_if_eq (tgt := 54) hx hb dX0_move_20 (by decide) (fun c_2 => ?_) (fun c_2 => ?_)
    · exact absurd c_2 (by decide)
    · skip
      refine lv_lload_n hx hb dX0_move_23 rfl (lv_at hl 4 rfl) ?_
      refine kc_i (wc := []) (wr := [(h0, .inr (0, tk_ev e))]) (va_runSN (As := [.long v]) (rest := []) ⟨hx, hb, hml, hown, hts⟩ (k_X3_isInLimit l D cI cM cJ _ v) ⟨va_cnB 1 hts gX0_move_X3_isInLimit_n54 rfl rfl rfl (hN.at 34 rfl) (hm 11 (.initialized RX3) rfl) (by decide +kernel) ⟨Nat.le_of_ble_eq_true rfl, Nat.le_of_ble_eq_true rfl⟩, (hm 10 (.static yX3_isInLimit) rfl), trivial⟩ (kp_preS (wc := []) (wr := [(h0, .inr (0, tk_ev e))]) hN hK hP hD) rfl rfl hl.1 rfl (lv_room (Nat.le_of_ble_eq_true rfl)) dX0_move_24 ⟨Nat.le_of_ble_eq_true rfl, Nat.le_of_ble_eq_true rfl⟩) hP hD hS hA (fun r_3 u_3 H locs p_3 hP hD hS => ?_)
      rcases p_3 with ⟨p_3, rfl⟩ | ⟨p_3, rfl⟩
      · have hP : va_P D vwCl ([(h0, .inr (0, tk_ev e))]) H := hP
        have hD : va_D A ([(h0, .inr (0, tk_ev e))]) := hD
        refine lv_if_eq (tgt := 54) hx hb dX0_move_27 (by decide) (fun c_4 => ?_) (fun c_4 => ?_)
        · exact absurd c_4 (by decide)
        · skip
          refine lv_lload hx hb dX0_move_30 (lv_at hl 1 rfl) ?_
          refine kc_i (wc := []) (wr := [(h0, .inr (0, tk_ev e))]) (va_runSN (As := [.long (if 0 < a then a else 0)]) (rest := []) ⟨hx, hb, hml, hown, hts⟩ (k_X3_isInLimit l D cI cM cJ _ (if 0 < a then a else 0)) ⟨va_cnB 1 hts gX0_move_X3_isInLimit_n54 rfl rfl rfl (hN.at 34 rfl) (hm 11 (.initialized RX3) rfl) (by decide +kernel) ⟨Nat.le_of_ble_eq_true rfl, Nat.le_of_ble_eq_true rfl⟩, (hm 10 (.static yX3_isInLimit) rfl), trivial⟩ (kp_preS (wc := []) (wr := [(h0, .inr (0, tk_ev e))]) hN hK hP hD) rfl rfl hl.1 rfl (lv_room (Nat.le_of_ble_eq_true rfl)) dX0_move_32 ⟨Nat.le_of_ble_eq_true rfl, Nat.le_of_ble_eq_true rfl⟩) hP hD hS hA (fun r_5 u_5 H locs p_5 hP hD hS => ?_)
          rcases p_5 with ⟨p_5, rfl⟩ | ⟨p_5, rfl⟩
          · have hP : va_P D vwCl ([(h0, .inr (0, tk_ev e))]) H := hP
            have hD : va_D A ([(h0, .inr (0, tk_ev e))]) := hD
            refine lv_if_eq (tgt := 54) hx hb dX0_move_35 (by decide) (fun c_6 => ?_) (fun c_6 => ?_)
            · exact absurd c_6 (by decide)
            · skip
              refine lv_lload hx hb dX0_move_38 (lv_at hl 6 rfl) ?_
              refine kc_i (wc := []) (wr := [(h0, .inr (0, tk_ev e))]) (va_runSN (As := [.long b]) (rest := []) ⟨hx, hb, hml, hown, hts⟩ (k_X3_isInLimit l D cI cM cJ _ b) ⟨va_cnB 1 hts gX0_move_X3_isInLimit_n54 rfl rfl rfl (hN.at 34 rfl) (hm 11 (.initialized RX3) rfl) (by decide +kernel) ⟨Nat.le_of_ble_eq_true rfl, Nat.le_of_ble_eq_true rfl⟩, (hm 10 (.static yX3_isInLimit) rfl), trivial⟩ (kp_preS (wc := []) (wr := [(h0, .inr (0, tk_ev e))]) hN hK hP hD) rfl rfl hl.1 rfl (lv_room (Nat.le_of_ble_eq_true rfl)) dX0_move_40 ⟨Nat.le_of_ble_eq_true rfl, Nat.le_of_ble_eq_true rfl⟩) hP hD hS hA (fun r_7 u_7 H locs p_7 hP hD hS => ?_)
              rcases p_7 with ⟨p_7, rfl⟩ | ⟨p_7, rfl⟩
              · have hP : va_P D vwCl ([(h0, .inr (0, tk_ev e))]) H := hP
                have hD : va_D A ([(h0, .inr (0, tk_ev e))]) := hD
                refine lv_if_eq (tgt := 54) hx hb dX0_move_43 (by decide) (fun c_8 => ?_) (fun c_8 => ?_)
                · exact absurd c_8 (by decide)
                · skip
                  refine lv_lload hx hb dX0_move_46 (lv_at hl 0 rfl) ?_
                  refine kc_i (wc := []) (wr := [(h0, .inr (0, tk_ev e))]) (va_runSN (As := [.long (if 0 < c then c else 0)]) (rest := []) ⟨hx, hb, hml, hown, hts⟩ (k_X3_isInLimit l D cI cM cJ _ (if 0 < c then c else 0)) ⟨va_cnB 1 hts gX0_move_X3_isInLimit_n54 rfl rfl rfl (hN.at 34 rfl) (hm 11 (.initialized RX3) rfl) (by decide +kernel) ⟨Nat.le_of_ble_eq_true rfl, Nat.le_of_ble_eq_true rfl⟩, (hm 10 (.static yX3_isInLimit) rfl), trivial⟩ (kp_preS (wc := []) (wr := [(h0, .inr (0, tk_ev e))]) hN hK hP hD) rfl rfl hl.1 rfl (lv_room (Nat.le_of_ble_eq_true rfl)) dX0_move_48 ⟨Nat.le_of_ble_eq_true rfl, Nat.le_of_ble_eq_true rfl⟩) hP hD hS hA (fun r_9 u_9 H locs p_9 hP hD hS => ?_)
                  rcases p_9 with ⟨p_9, rfl⟩ | ⟨p_9, rfl⟩
                  · have hP : va_P D vwCl ([(h0, .inr (0, tk_ev e))]) H := hP
                    have hD : va_D A ([(h0, .inr (0, tk_ev e))]) := hD
                    refine lv_if_ne (tgt := 56) hx hb dX0_move_51 (by decide) (fun c_10 => ?_) (fun c_10 => ?_)
                    · skip
                      refine lv_aload_n hx hb dX0_move_56 rfl (lv_at hl 2 rfl) ?_
                      refine lv_lload_n hx hb dX0_move_57 rfl (lv_at hl 3 rfl) ?_
                      refine va_put (D := D) (ci := 0) (v := .long x) (ty := .long) (C := RX0) (T := TX0) (N := 8) hx hb hts izX0_move_0 tyX0 tyX0_ok nmX0 hown hK hP hD hS 0 rfl rfl 0 (by decide) (hm 5 (.fieldLink RX0 9 "TankFilter$Estimate" "level" "J") rfl) (fun _ h9 => h9) rfl (by decide +kernel) rfl rfl (Nat.le_of_ble_eq_true rfl) dX0_move_58 (fun H locs hP hD hS => ?_)
                      have hP : va_P D vwCl ([(h0, .inr (0, [.long x, .long (e 1), .long (e 2), .long (e 3), .long (e 4), .long (e 5), .long (e 6), .long (e 7)]))]) H := hP
                      have hD : va_D A ([(h0, .inr (0, [.long x, .long (e 1), .long (e 2), .long (e 3), .long (e 4), .long (e 5), .long (e 6), .long (e 7)]))]) := hD
                      refine lv_aload_n hx hb dX0_move_61 rfl (lv_at hl 2 rfl) ?_
                      refine lv_lload_n hx hb dX0_move_62 rfl (lv_at hl 4 rfl) ?_
                      refine va_put (D := D) (ci := 0) (v := .long v) (ty := .long) (C := RX0) (T := TX0) (N := 8) hx hb hts izX0_move_0 tyX0 tyX0_ok nmX0 hown hK hP hD hS 0 rfl rfl 1 (by decide) (hm 6 (.fieldLink RX0 15 "TankFilter$Estimate" "flow" "J") rfl) (fun _ h9 => h9) rfl (by decide +kernel) rfl rfl (Nat.le_of_ble_eq_true rfl) dX0_move_63 (fun H locs hP hD hS => ?_)
                      have hP : va_P D vwCl ([(h0, .inr (0, [.long x, .long v, .long (e 2), .long (e 3), .long (e 4), .long (e 5), .long (e 6), .long (e 7)]))]) H := hP
                      have hD : va_D A ([(h0, .inr (0, [.long x, .long v, .long (e 2), .long (e 3), .long (e 4), .long (e 5), .long (e 6), .long (e 7)]))]) := hD
                      refine lv_aload_n hx hb dX0_move_66 rfl (lv_at hl 2 rfl) ?_
                      refine lv_lload hx hb dX0_move_67 (lv_at hl 1 rfl) ?_
                      refine va_put (D := D) (ci := 0) (v := .long (if 0 < a then a else 0)) (ty := .long) (C := RX0) (T := TX0) (N := 8) hx hb hts izX0_move_0 tyX0 tyX0_ok nmX0 hown hK hP hD hS 0 rfl rfl 2 (by decide) (hm 7 (.fieldLink RX0 20 "TankFilter$Estimate" "levelVariance" "J") rfl) (fun _ h9 => h9) rfl (by decide +kernel) rfl rfl (Nat.le_of_ble_eq_true rfl) dX0_move_69 (fun H locs hP hD hS => ?_)
                      have hP : va_P D vwCl ([(h0, .inr (0, [.long x, .long v, .long (if 0 < a then a else 0), .long (e 3), .long (e 4), .long (e 5), .long (e 6), .long (e 7)]))]) H := hP
                      have hD : va_D A ([(h0, .inr (0, [.long x, .long v, .long (if 0 < a then a else 0), .long (e 3), .long (e 4), .long (e 5), .long (e 6), .long (e 7)]))]) := hD
                      refine lv_aload_n hx hb dX0_move_72 rfl (lv_at hl 2 rfl) ?_
                      refine lv_lload hx hb dX0_move_73 (lv_at hl 6 rfl) ?_
                      refine va_put (D := D) (ci := 0) (v := .long b) (ty := .long) (C := RX0) (T := TX0) (N := 8) hx hb hts izX0_move_0 tyX0 tyX0_ok nmX0 hown hK hP hD hS 0 rfl rfl 3 (by decide) (hm 8 (.fieldLink RX0 23 "TankFilter$Estimate" "covariance" "J") rfl) (fun _ h9 => h9) rfl (by decide +kernel) rfl rfl (Nat.le_of_ble_eq_true rfl) dX0_move_75 (fun H locs hP hD hS => ?_)
                      have hP : va_P D vwCl ([(h0, .inr (0, [.long x, .long v, .long (if 0 < a then a else 0), .long b, .long (e 4), .long (e 5), .long (e 6), .long (e 7)]))]) H := hP
                      have hD : va_D A ([(h0, .inr (0, [.long x, .long v, .long (if 0 < a then a else 0), .long b, .long (e 4), .long (e 5), .long (e 6), .long (e 7)]))]) := hD
                      refine lv_aload_n hx hb dX0_move_78 rfl (lv_at hl 2 rfl) ?_
                      refine lv_lload hx hb dX0_move_79 (lv_at hl 0 rfl) ?_
                      refine va_put (D := D) (ci := 0) (v := .long (if 0 < c then c else 0)) (ty := .long) (C := RX0) (T := TX0) (N := 8) hx hb hts izX0_move_0 tyX0 tyX0_ok nmX0 hown hK hP hD hS 0 rfl rfl 4 (by decide) (hm 9 (.fieldLink RX0 26 "TankFilter$Estimate" "flowVariance" "J") rfl) (fun _ h9 => h9) rfl (by decide +kernel) rfl rfl (Nat.le_of_ble_eq_true rfl) dX0_move_81 (fun H locs hP hD hS => ?_)
                      have hP : va_P D vwCl ([(h0, .inr (0, [.long x, .long v, .long (if 0 < a then a else 0), .long b, .long (if 0 < c then c else 0), .long (e 5), .long (e 6), .long (e 7)]))]) H := hP
                      have hD : va_D A ([(h0, .inr (0, [.long x, .long v, .long (if 0 < a then a else 0), .long b, .long (if 0 < c then c else 0), .long (e 5), .long (e 6), .long (e 7)]))]) := hD
                      refine lv_iconst (v := 1) hx hb dX0_move_84 (by decide) ?_
                      exact W.zret (v := 1) hx hb hr rfl (fun zt ht hW => ⟨⟨1, tk_mv e x v a b c, rfl, Or.inl ⟨by rw [tk_mok, tk_pos, tk_pos, p_1, p_3, p_5, p_7, p_9]; rfl, rfl, rfl⟩, KB.of hAe (by rw [ht]; exact hP) hD⟩, hS.F ht⟩) hS.2.2 dX0_move_85
                    · exact absurd c_10 (by decide)
                  · have hP : va_P D vwCl ([(h0, .inr (0, tk_ev e))]) H := hP
                    have hD : va_D A ([(h0, .inr (0, tk_ev e))]) := hD
                    refine lv_if_ne (tgt := 56) hx hb dX0_move_51 (by decide) (fun c_11 => ?_) (fun c_11 => ?_)
                    · exact absurd c_11 (by decide)
                    · skip
                      refine lv_iconst (v := 0) hx hb dX0_move_54 (by decide) ?_
                      exact W.zret (v := 0) hx hb hr rfl (fun zt ht hW => ⟨⟨0, e, rfl, Or.inr ⟨by rw [tk_mok, tk_pos, tk_pos, p_1, p_3, p_5, p_7, p_9]; rfl, rfl, rfl⟩, KB.of hAe (by rw [ht]; exact hP) hD⟩, hS.F ht⟩) hS.2.2 dX0_move_55
              · have hP : va_P D vwCl ([(h0, .inr (0, tk_ev e))]) H := hP
                have hD : va_D A ([(h0, .inr (0, tk_ev e))]) := hD
                refine lv_if_eq (tgt := 54) hx hb dX0_move_43 (by decide) (fun c_12 => ?_) (fun c_12 => ?_)
                · skip
                  refine lv_iconst (v := 0) hx hb dX0_move_54 (by decide) ?_
                  exact W.zret (v := 0) hx hb hr rfl (fun zt ht hW => ⟨⟨0, e, rfl, Or.inr ⟨by rw [tk_mok, tk_pos, tk_pos, p_1, p_3, p_5, p_7]; rfl, rfl, rfl⟩, KB.of hAe (by rw [ht]; exact hP) hD⟩, hS.F ht⟩) hS.2.2 dX0_move_55
                · exact absurd c_12 (by decide)
          · have hP : va_P D vwCl ([(h0, .inr (0, tk_ev e))]) H := hP
            have hD : va_D A ([(h0, .inr (0, tk_ev e))]) := hD
            refine lv_if_eq (tgt := 54) hx hb dX0_move_35 (by decide) (fun c_13 => ?_) (fun c_13 => ?_)
            · skip
              refine lv_iconst (v := 0) hx hb dX0_move_54 (by decide) ?_
              exact W.zret (v := 0) hx hb hr rfl (fun zt ht hW => ⟨⟨0, e, rfl, Or.inr ⟨by rw [tk_mok, tk_pos, tk_pos, p_1, p_3, p_5]; rfl, rfl, rfl⟩, KB.of hAe (by rw [ht]; exact hP) hD⟩, hS.F ht⟩) hS.2.2 dX0_move_55
            · exact absurd c_13 (by decide)
      · have hP : va_P D vwCl ([(h0, .inr (0, tk_ev e))]) H := hP
        have hD : va_D A ([(h0, .inr (0, tk_ev e))]) := hD
        refine lv_if_eq (tgt := 54) hx hb dX0_move_27 (by decide) (fun c_14 => ?_) (fun c_14 => ?_)
        · skip
          refine lv_iconst (v := 0) hx hb dX0_move_54 (by decide) ?_
          exact W.zret (v := 0) hx hb hr rfl (fun zt ht hW => ⟨⟨0, e, rfl, Or.inr ⟨by rw [tk_mok, tk_pos, tk_pos, p_1, p_3]; rfl, rfl, rfl⟩, KB.of hAe (by rw [ht]; exact hP) hD⟩, hS.F ht⟩) hS.2.2 dX0_move_55
        · exact absurd c_14 (by decide)
  · have hP : va_P D vwCl ([(h0, .inr (0, tk_ev e))]) H := hP
    have hD : va_D A ([(h0, .inr (0, tk_ev e))]) := hD
    refine lv_if_eq (tgt := 54) hx hb dX0_move_20 (by decide) (fun c_15 => ?_) (fun c_15 => ?_)
    · skip
      refine lv_iconst (v := 0) hx hb dX0_move_54 (by decide) ?_
      exact W.zret (v := 0) hx hb hr rfl (fun zt ht hW => ⟨⟨0, e, rfl, Or.inr ⟨by rw [tk_mok, tk_pos, tk_pos, p_1]; rfl, rfl, rfl⟩, KB.of hAe (by rw [ht]; exact hP) hD⟩, hS.F ht⟩) hS.2.2 dX0_move_55
    · exact absurd c_15 (by decide)

theorem izX0_advance_0 : ∀ w ∈ wsX00, w ∈ wsX0_advance := fun _ h => List.mem_cons_of_mem _ (List.mem_append_right _ h)
set_option maxHeartbeats 4000000 in
set_option maxRecDepth 100000 in
/-- advance -/
theorem k_X0_advance (l : Launch) (D : va_G) (cI cM cJ : ClassId) (sz : Nat) (h0 : Nat) (e : Nat → Int64) (n q w : Int64) : Met l yX0_advance wsX0_advance ({ frames := 2, cells := 0, slots := 0, locals := 55 }) (va_Pc [.ref h0, .long n, .long q, .long w] (KP D (tk_T cI cM cJ) ([(h0, .inr (0, tk_ev e))]) sz)) (va_Qi (fun (r : Int32) (u : Nat → Int64) => (ad_ok e n q w = true ∧ r = 1 ∧ u = ad_e e n q w) ∨ (ad_ok e n q w = false ∧ r = 0 ∧ e = u)) (fun u zt => KB D ([(h0, .inr (0, tk_ev e))]) ([(h0, .inr (0, tk_ev u))]) sz zt) (va_A ([(h0, .inr (0, tk_ev e))]) sz)) 0 0 (va_A ([(h0, .inr (0, tk_ev e))]) sz) := by
  refine Met.ofW (cc := cX0_advance) (maxL := 7) (ret := (some .boolean)) (by decide) rfl ?_
  intro zp ze zs zm zargs zbelow zmeth zc zs1 B hml hv
  obtain ⟨rfl, hsz, hP, hK, hD0, hN⟩ := hv
  have hx := B.exec
  have hb := B.bytes
  have hr := B.returns
  have hts := atoms_spec (ws := wsX0_advance) B.pre
  have hm : ∀ (i : Nat) (w : Cond), wsX0_advance[i]? = some w → w.before _ zs = true := fun i w h => hts w (List.mem_of_getElem? h)
  have hown : zs.vm.findClass RX0 = some zm.cls := findClass_of_methodNamed B.named
  have hlocks := B.notSynchronized
  subst hsz
  have hD := hD0.self (sz := zs.heap.size)
  generalize hAe : va_A ([(h0, .inr (0, tk_ev e))]) zs.heap.size = A at hD ⊢
  have hA : ∀ q : Nat, zs.heap.size ≤ q → A q := fun q h => by rw [← hAe]; exact Or.inr h
  have hS : va_S A zs.heap zs.heap [] := va_S.rf
  have hP : va_P D vwCl ([(h0, .inr (0, tk_ev e))]) zs.heap := hP
  have hl := lv_entry ([.ref h0, .long n, .long q, .long w]) (n := 7) (Nat.le_of_ble_eq_true rfl)
  rw [lg_entry_eq]
  generalize (lg_sl ([.ref h0, .long n, .long q, .long w]) ++ List.replicate (7 - (lg_sl ([.ref h0, .long n, .long q, .long w])).length) Slot.unset).toArray = ls at hl ⊢
  have hl : lv_has ls 7 [(0, .ref h0), (1, .long n), (3, .long q), (5, .long w)] := hl
  refine lv_aload_n hx hb dX0_advance_0 rfl (lv_at hl 0 rfl) ?_
  refine lv_aload_n hx hb dX0_advance_1 rfl (lv_at hl 0 rfl) ?_
  refine va_get (D := D) (ci := 0) (v := .long (e 0)) (C := RX0) (T := TX0) (N := 8) hx hb hts izX0_advance_0 hown hK hP 0 rfl rfl 0 (by decide) (hm 1 (.fieldLink RX0 9 "TankFilter$Estimate" "level" "J") rfl) (fun _ h9 => h9) rfl dX0_advance_2 ?_
  refine lv_aload_n hx hb dX0_advance_5 rfl (lv_at hl 0 rfl) ?_
  refine va_get (D := D) (ci := 0) (v := .long (e 1)) (C := RX0) (T := TX0) (N := 8) hx hb hts izX0_advance_0 hown hK hP 0 rfl rfl 1 (by decide) (hm 2 (.fieldLink RX0 15 "TankFilter$Estimate" "flow" "J") rfl) (fun _ h9 => h9) rfl dX0_advance_6 ?_
  refine lv_ladd hx hb dX0_advance_9 ?_
  refine lv_lload_n hx hb dX0_advance_10 rfl (lv_at hl 1 rfl) ?_
  refine lv_ladd hx hb dX0_advance_11 ?_
  refine lv_aload_n hx hb dX0_advance_12 rfl (lv_at hl 0 rfl) ?_
  refine va_get (D := D) (ci := 0) (v := .long (e 1)) (C := RX0) (T := TX0) (N := 8) hx hb hts izX0_advance_0 hown hK hP 0 rfl rfl 1 (by decide) (hm 2 (.fieldLink RX0 15 "TankFilter$Estimate" "flow" "J") rfl) (fun _ h9 => h9) rfl dX0_advance_13 ?_
  refine lv_aload_n hx hb dX0_advance_16 rfl (lv_at hl 0 rfl) ?_
  refine va_get (D := D) (ci := 0) (v := .long (e 2)) (C := RX0) (T := TX0) (N := 8) hx hb hts izX0_advance_0 hown hK hP 0 rfl rfl 2 (by decide) (hm 3 (.fieldLink RX0 20 "TankFilter$Estimate" "levelVariance" "J") rfl) (fun _ h9 => h9) rfl dX0_advance_17 ?_
  refine lv_ldc2 (v := 2) hx hb hown (hm 4 (.constantLong RX0 40 (2)) rfl) dX0_advance_20 ?_
  refine lv_aload_n hx hb dX0_advance_23 rfl (lv_at hl 0 rfl) ?_
  refine va_get (D := D) (ci := 0) (v := .long (e 3)) (C := RX0) (T := TX0) (N := 8) hx hb hts izX0_advance_0 hown hK hP 0 rfl rfl 3 (by decide) (hm 5 (.fieldLink RX0 23 "TankFilter$Estimate" "covariance" "J") rfl) (fun _ h9 => h9) rfl dX0_advance_24 ?_
  refine lv_lmul hx hb dX0_advance_27 ?_
  refine lv_ladd hx hb dX0_advance_28 ?_
  refine lv_aload_n hx hb dX0_advance_29 rfl (lv_at hl 0 rfl) ?_
  refine va_get (D := D) (ci := 0) (v := .long (e 4)) (C := RX0) (T := TX0) (N := 8) hx hb hts izX0_advance_0 hown hK hP 0 rfl rfl 4 (by decide) (hm 6 (.fieldLink RX0 26 "TankFilter$Estimate" "flowVariance" "J") rfl) (fun _ h9 => h9) rfl dX0_advance_30 ?_
  refine lv_ladd hx hb dX0_advance_33 ?_
  refine lv_lload_n hx hb dX0_advance_34 rfl (lv_at hl 2 rfl) ?_
  refine lv_ladd hx hb dX0_advance_35 ?_
  refine lv_aload_n hx hb dX0_advance_36 rfl (lv_at hl 0 rfl) ?_
  refine va_get (D := D) (ci := 0) (v := .long (e 3)) (C := RX0) (T := TX0) (N := 8) hx hb hts izX0_advance_0 hown hK hP 0 rfl rfl 3 (by decide) (hm 5 (.fieldLink RX0 23 "TankFilter$Estimate" "covariance" "J") rfl) (fun _ h9 => h9) rfl dX0_advance_37 ?_
  refine lv_aload_n hx hb dX0_advance_40 rfl (lv_at hl 0 rfl) ?_
  refine va_get (D := D) (ci := 0) (v := .long (e 4)) (C := RX0) (T := TX0) (N := 8) hx hb hts izX0_advance_0 hown hK hP 0 rfl rfl 4 (by decide) (hm 6 (.fieldLink RX0 26 "TankFilter$Estimate" "flowVariance" "J") rfl) (fun _ h9 => h9) rfl dX0_advance_41 ?_
  refine lv_ladd hx hb dX0_advance_44 ?_
  refine lv_aload_n hx hb dX0_advance_45 rfl (lv_at hl 0 rfl) ?_
  refine va_get (D := D) (ci := 0) (v := .long (e 4)) (C := RX0) (T := TX0) (N := 8) hx hb hts izX0_advance_0 hown hK hP 0 rfl rfl 4 (by decide) (hm 6 (.fieldLink RX0 26 "TankFilter$Estimate" "flowVariance" "J") rfl) (fun _ h9 => h9) rfl dX0_advance_46 ?_
  refine lv_lload hx hb dX0_advance_49 (lv_at hl 3 rfl) ?_
  refine lv_ladd hx hb dX0_advance_51 ?_
  refine kc_i (wc := [(h0, .inr (0, tk_ev e))]) (wr := []) (va_runV (As := [.long (((e 0) + (e 1)) + n), .long (e 1), .long ((((e 2) + (2 * (e 3))) + (e 4)) + q), .long ((e 3) + (e 4)), .long ((e 4) + w)]) (rest := []) ⟨hx, hb, hml, hown, hts⟩ (k_X0_move l D cI cM cJ _ h0 e (((e 0) + (e 1)) + n) (e 1) ((((e 2) + (2 * (e 3))) + (e 4)) + q) ((e 3) + (e 4)) ((e 4) + w)) (cwV 5 hts gX0_advance_X0_move rfl rfl rfl (by decide +kernel) ⟨Nat.le_of_ble_eq_true rfl, Nat.le_of_ble_eq_true rfl⟩) (kp_preV (q := (RX0, TX0, 8)) (wc := [(h0, .inr (0, tk_ev e))]) (wr := []) hN hK hP hD 0 rfl rfl) rfl rfl hl.1 rfl (lv_room (Nat.le_of_ble_eq_true rfl)) dX0_advance_52 ⟨Nat.le_of_ble_eq_true rfl, Nat.le_of_ble_eq_true rfl⟩) hP hD hS hA (fun r_1 u_1 H locs p_1 hP hD hS => ?_)
  rcases p_1 with ⟨p_1, rfl, rfl⟩ | ⟨p_1, rfl, rfl⟩
  · have hP : va_P D vwCl ([(h0, .inr (0, tk_ev (tk_mv e (((e 0) + (e 1)) + n) (e 1) ((((e 2) + (2 * (e 3))) + (e 4)) + q) ((e 3) + (e 4)) ((e 4) + w))))]) H := hP
    have hD : va_D A ([(h0, .inr (0, tk_ev (tk_mv e (((e 0) + (e 1)) + n) (e 1) ((((e 2) + (2 * (e 3))) + (e 4)) + q) ((e 3) + (e 4)) ((e 4) + w))))]) := hD
    exact W.zret (v := 1) hx hb hr rfl (fun zt ht hW => ⟨⟨1, ad_e e n q w, rfl, Or.inl ⟨p_1, rfl, rfl⟩, KB.of hAe (by rw [ht]; exact hP) hD⟩, hS.F ht⟩) hS.2.2 dX0_advance_55
  · have hP : va_P D vwCl ([(h0, .inr (0, tk_ev e))]) H := hP
    have hD : va_D A ([(h0, .inr (0, tk_ev e))]) := hD
    exact W.zret (v := 0) hx hb hr rfl (fun zt ht hW => ⟨⟨0, e, rfl, Or.inr ⟨p_1, rfl, rfl⟩, KB.of hAe (by rw [ht]; exact hP) hD⟩, hS.F ht⟩) hS.2.2 dX0_advance_55

theorem izX0_copyFrom_0 : ∀ w ∈ wsX00, w ∈ wsX0_copyFrom := fun _ h => List.mem_cons_of_mem _ (List.mem_append_right _ h)
set_option maxHeartbeats 4000000 in
set_option maxRecDepth 100000 in
/-- copyFrom -/
theorem k_X0_copyFrom (l : Launch) (D : va_G) (cI cM cJ : ClassId) (sz : Nat) (h0 h1 : Nat) (e f : Nat → Int64) : Met l yX0_copyFrom wsX0_copyFrom ({ frames := 0, cells := 0, slots := 0, locals := 0 }) (va_Pc [.ref h0, .ref h1] (KP D (tk_T cI cM cJ) ([(h0, .inr (0, tk_ev e)), (h1, .inr (0, tk_ev f))]) sz)) (va_Qv (fun (u : Unit) => True) (fun u zt => KB D ([(h0, .inr (0, tk_ev e)), (h1, .inr (0, tk_ev f))]) ([(h0, .inr (0, tk_ev f)), (h1, .inr (0, tk_ev f))]) sz zt) (va_A ([(h0, .inr (0, tk_ev e)), (h1, .inr (0, tk_ev f))]) sz)) 0 0 (va_A ([(h0, .inr (0, tk_ev e)), (h1, .inr (0, tk_ev f))]) sz) := by
  refine Met.ofW (cc := cX0_copyFrom) (maxL := 2) (ret := none) (by decide) rfl ?_
  intro zp ze zs zm zargs zbelow zmeth zc zs1 B hml hv
  obtain ⟨rfl, hsz, hP, hK, hD0, hN⟩ := hv
  have hx := B.exec
  have hb := B.bytes
  have hr := B.returns
  have hts := atoms_spec (ws := wsX0_copyFrom) B.pre
  have hm : ∀ (i : Nat) (w : Cond), wsX0_copyFrom[i]? = some w → w.before _ zs = true := fun i w h => hts w (List.mem_of_getElem? h)
  have hown : zs.vm.findClass RX0 = some zm.cls := findClass_of_methodNamed B.named
  have hlocks := B.notSynchronized
  subst hsz
  have hD := hD0.self (sz := zs.heap.size)
  generalize hAe : va_A ([(h0, .inr (0, tk_ev e)), (h1, .inr (0, tk_ev f))]) zs.heap.size = A at hD ⊢
  have hA : ∀ q : Nat, zs.heap.size ≤ q → A q := fun q h => by rw [← hAe]; exact Or.inr h
  have hS : va_S A zs.heap zs.heap [] := va_S.rf
  have hP : va_P D vwCl ([(h0, .inr (0, tk_ev e)), (h1, .inr (0, tk_ev f))]) zs.heap := hP
  have hl := lv_entry ([.ref h0, .ref h1]) (n := 2) (Nat.le_of_ble_eq_true rfl)
  rw [lg_entry_eq]
  generalize (lg_sl ([.ref h0, .ref h1]) ++ List.replicate (2 - (lg_sl ([.ref h0, .ref h1])).length) Slot.unset).toArray = ls at hl ⊢
  have hl : lv_has ls 2 [(0, .ref h0), (1, .ref h1)] := hl
  refine lv_aload_n hx hb dX0_copyFrom_0 rfl (lv_at hl 0 rfl) ?_
  refine lv_aload_n hx hb dX0_copyFrom_1 rfl (lv_at hl 1 rfl) ?_
  refine va_get (D := D) (ci := 0) (v := .long (f 0)) (C := RX0) (T := TX0) (N := 8) hx hb hts izX0_copyFrom_0 hown hK hP 1 rfl rfl 0 (by decide) (hm 1 (.fieldLink RX0 9 "TankFilter$Estimate" "level" "J") rfl) (fun _ h9 => h9) rfl dX0_copyFrom_2 ?_
  refine va_put (D := D) (ci := 0) (v := .long (f 0)) (ty := .long) (C := RX0) (T := TX0) (N := 8) hx hb hts izX0_copyFrom_0 tyX0 tyX0_ok nmX0 hown hK hP hD hS 0 rfl rfl 0 (by decide) (hm 1 (.fieldLink RX0 9 "TankFilter$Estimate" "level" "J") rfl) (fun _ h9 => h9) rfl (by decide +kernel) rfl rfl (Nat.le_of_ble_eq_true rfl) dX0_copyFrom_5 (fun H locs hP hD hS => ?_)
  have hP : va_P D vwCl ([(h0, .inr (0, [.long (f 0), .long (e 1), .long (e 2), .long (e 3), .long (e 4), .long (e 5), .long (e 6), .long (e 7)])), (h1, .inr (0, tk_ev f))]) H := hP
  have hD : va_D A ([(h0, .inr (0, [.long (f 0), .long (e 1), .long (e 2), .long (e 3), .long (e 4), .long (e 5), .long (e 6), .long (e 7)])), (h1, .inr (0, tk_ev f))]) := hD
  refine lv_aload_n hx hb dX0_copyFrom_8 rfl (lv_at hl 0 rfl) ?_
  refine lv_aload_n hx hb dX0_copyFrom_9 rfl (lv_at hl 1 rfl) ?_
  refine va_get (D := D) (ci := 0) (v := .long (f 1)) (C := RX0) (T := TX0) (N := 8) hx hb hts izX0_copyFrom_0 hown hK hP 1 rfl rfl 1 (by decide) (hm 2 (.fieldLink RX0 15 "TankFilter$Estimate" "flow" "J") rfl) (fun _ h9 => h9) rfl dX0_copyFrom_10 ?_
  refine va_put (D := D) (ci := 0) (v := .long (f 1)) (ty := .long) (C := RX0) (T := TX0) (N := 8) hx hb hts izX0_copyFrom_0 tyX0 tyX0_ok nmX0 hown hK hP hD hS 0 rfl rfl 1 (by decide) (hm 2 (.fieldLink RX0 15 "TankFilter$Estimate" "flow" "J") rfl) (fun _ h9 => h9) rfl (by decide +kernel) rfl rfl (Nat.le_of_ble_eq_true rfl) dX0_copyFrom_13 (fun H locs hP hD hS => ?_)
  have hP : va_P D vwCl ([(h0, .inr (0, [.long (f 0), .long (f 1), .long (e 2), .long (e 3), .long (e 4), .long (e 5), .long (e 6), .long (e 7)])), (h1, .inr (0, tk_ev f))]) H := hP
  have hD : va_D A ([(h0, .inr (0, [.long (f 0), .long (f 1), .long (e 2), .long (e 3), .long (e 4), .long (e 5), .long (e 6), .long (e 7)])), (h1, .inr (0, tk_ev f))]) := hD
  refine lv_aload_n hx hb dX0_copyFrom_16 rfl (lv_at hl 0 rfl) ?_
  refine lv_aload_n hx hb dX0_copyFrom_17 rfl (lv_at hl 1 rfl) ?_
  refine va_get (D := D) (ci := 0) (v := .long (f 2)) (C := RX0) (T := TX0) (N := 8) hx hb hts izX0_copyFrom_0 hown hK hP 1 rfl rfl 2 (by decide) (hm 3 (.fieldLink RX0 20 "TankFilter$Estimate" "levelVariance" "J") rfl) (fun _ h9 => h9) rfl dX0_copyFrom_18 ?_
  refine va_put (D := D) (ci := 0) (v := .long (f 2)) (ty := .long) (C := RX0) (T := TX0) (N := 8) hx hb hts izX0_copyFrom_0 tyX0 tyX0_ok nmX0 hown hK hP hD hS 0 rfl rfl 2 (by decide) (hm 3 (.fieldLink RX0 20 "TankFilter$Estimate" "levelVariance" "J") rfl) (fun _ h9 => h9) rfl (by decide +kernel) rfl rfl (Nat.le_of_ble_eq_true rfl) dX0_copyFrom_21 (fun H locs hP hD hS => ?_)
  have hP : va_P D vwCl ([(h0, .inr (0, [.long (f 0), .long (f 1), .long (f 2), .long (e 3), .long (e 4), .long (e 5), .long (e 6), .long (e 7)])), (h1, .inr (0, tk_ev f))]) H := hP
  have hD : va_D A ([(h0, .inr (0, [.long (f 0), .long (f 1), .long (f 2), .long (e 3), .long (e 4), .long (e 5), .long (e 6), .long (e 7)])), (h1, .inr (0, tk_ev f))]) := hD
  refine lv_aload_n hx hb dX0_copyFrom_24 rfl (lv_at hl 0 rfl) ?_
  refine lv_aload_n hx hb dX0_copyFrom_25 rfl (lv_at hl 1 rfl) ?_
  refine va_get (D := D) (ci := 0) (v := .long (f 3)) (C := RX0) (T := TX0) (N := 8) hx hb hts izX0_copyFrom_0 hown hK hP 1 rfl rfl 3 (by decide) (hm 4 (.fieldLink RX0 23 "TankFilter$Estimate" "covariance" "J") rfl) (fun _ h9 => h9) rfl dX0_copyFrom_26 ?_
  refine va_put (D := D) (ci := 0) (v := .long (f 3)) (ty := .long) (C := RX0) (T := TX0) (N := 8) hx hb hts izX0_copyFrom_0 tyX0 tyX0_ok nmX0 hown hK hP hD hS 0 rfl rfl 3 (by decide) (hm 4 (.fieldLink RX0 23 "TankFilter$Estimate" "covariance" "J") rfl) (fun _ h9 => h9) rfl (by decide +kernel) rfl rfl (Nat.le_of_ble_eq_true rfl) dX0_copyFrom_29 (fun H locs hP hD hS => ?_)
  have hP : va_P D vwCl ([(h0, .inr (0, [.long (f 0), .long (f 1), .long (f 2), .long (f 3), .long (e 4), .long (e 5), .long (e 6), .long (e 7)])), (h1, .inr (0, tk_ev f))]) H := hP
  have hD : va_D A ([(h0, .inr (0, [.long (f 0), .long (f 1), .long (f 2), .long (f 3), .long (e 4), .long (e 5), .long (e 6), .long (e 7)])), (h1, .inr (0, tk_ev f))]) := hD
  refine lv_aload_n hx hb dX0_copyFrom_32 rfl (lv_at hl 0 rfl) ?_
  refine lv_aload_n hx hb dX0_copyFrom_33 rfl (lv_at hl 1 rfl) ?_
  refine va_get (D := D) (ci := 0) (v := .long (f 4)) (C := RX0) (T := TX0) (N := 8) hx hb hts izX0_copyFrom_0 hown hK hP 1 rfl rfl 4 (by decide) (hm 5 (.fieldLink RX0 26 "TankFilter$Estimate" "flowVariance" "J") rfl) (fun _ h9 => h9) rfl dX0_copyFrom_34 ?_
  refine va_put (D := D) (ci := 0) (v := .long (f 4)) (ty := .long) (C := RX0) (T := TX0) (N := 8) hx hb hts izX0_copyFrom_0 tyX0 tyX0_ok nmX0 hown hK hP hD hS 0 rfl rfl 4 (by decide) (hm 5 (.fieldLink RX0 26 "TankFilter$Estimate" "flowVariance" "J") rfl) (fun _ h9 => h9) rfl (by decide +kernel) rfl rfl (Nat.le_of_ble_eq_true rfl) dX0_copyFrom_37 (fun H locs hP hD hS => ?_)
  have hP : va_P D vwCl ([(h0, .inr (0, [.long (f 0), .long (f 1), .long (f 2), .long (f 3), .long (f 4), .long (e 5), .long (e 6), .long (e 7)])), (h1, .inr (0, tk_ev f))]) H := hP
  have hD : va_D A ([(h0, .inr (0, [.long (f 0), .long (f 1), .long (f 2), .long (f 3), .long (f 4), .long (e 5), .long (e 6), .long (e 7)])), (h1, .inr (0, tk_ev f))]) := hD
  refine lv_aload_n hx hb dX0_copyFrom_40 rfl (lv_at hl 0 rfl) ?_
  refine lv_aload_n hx hb dX0_copyFrom_41 rfl (lv_at hl 1 rfl) ?_
  refine va_get (D := D) (ci := 0) (v := .long (f 5)) (C := RX0) (T := TX0) (N := 8) hx hb hts izX0_copyFrom_0 hown hK hP 1 rfl rfl 5 (by decide) (hm 6 (.fieldLink RX0 31 "TankFilter$Estimate" "innovation" "J") rfl) (fun _ h9 => h9) rfl dX0_copyFrom_42 ?_
  refine va_put (D := D) (ci := 0) (v := .long (f 5)) (ty := .long) (C := RX0) (T := TX0) (N := 8) hx hb hts izX0_copyFrom_0 tyX0 tyX0_ok nmX0 hown hK hP hD hS 0 rfl rfl 5 (by decide) (hm 6 (.fieldLink RX0 31 "TankFilter$Estimate" "innovation" "J") rfl) (fun _ h9 => h9) rfl (by decide +kernel) rfl rfl (Nat.le_of_ble_eq_true rfl) dX0_copyFrom_45 (fun H locs hP hD hS => ?_)
  have hP : va_P D vwCl ([(h0, .inr (0, [.long (f 0), .long (f 1), .long (f 2), .long (f 3), .long (f 4), .long (f 5), .long (e 6), .long (e 7)])), (h1, .inr (0, tk_ev f))]) H := hP
  have hD : va_D A ([(h0, .inr (0, [.long (f 0), .long (f 1), .long (f 2), .long (f 3), .long (f 4), .long (f 5), .long (e 6), .long (e 7)])), (h1, .inr (0, tk_ev f))]) := hD
  refine lv_aload_n hx hb dX0_copyFrom_48 rfl (lv_at hl 0 rfl) ?_
  refine lv_aload_n hx hb dX0_copyFrom_49 rfl (lv_at hl 1 rfl) ?_
  refine va_get (D := D) (ci := 0) (v := .long (f 6)) (C := RX0) (T := TX0) (N := 8) hx hb hts izX0_copyFrom_0 hown hK hP 1 rfl rfl 6 (by decide) (hm 7 (.fieldLink RX0 34 "TankFilter$Estimate" "levelGain" "J") rfl) (fun _ h9 => h9) rfl dX0_copyFrom_50 ?_
  refine va_put (D := D) (ci := 0) (v := .long (f 6)) (ty := .long) (C := RX0) (T := TX0) (N := 8) hx hb hts izX0_copyFrom_0 tyX0 tyX0_ok nmX0 hown hK hP hD hS 0 rfl rfl 6 (by decide) (hm 7 (.fieldLink RX0 34 "TankFilter$Estimate" "levelGain" "J") rfl) (fun _ h9 => h9) rfl (by decide +kernel) rfl rfl (Nat.le_of_ble_eq_true rfl) dX0_copyFrom_53 (fun H locs hP hD hS => ?_)
  have hP : va_P D vwCl ([(h0, .inr (0, [.long (f 0), .long (f 1), .long (f 2), .long (f 3), .long (f 4), .long (f 5), .long (f 6), .long (e 7)])), (h1, .inr (0, tk_ev f))]) H := hP
  have hD : va_D A ([(h0, .inr (0, [.long (f 0), .long (f 1), .long (f 2), .long (f 3), .long (f 4), .long (f 5), .long (f 6), .long (e 7)])), (h1, .inr (0, tk_ev f))]) := hD
  refine lv_aload_n hx hb dX0_copyFrom_56 rfl (lv_at hl 0 rfl) ?_
  refine lv_aload_n hx hb dX0_copyFrom_57 rfl (lv_at hl 1 rfl) ?_
  refine va_get (D := D) (ci := 0) (v := .long (f 7)) (C := RX0) (T := TX0) (N := 8) hx hb hts izX0_copyFrom_0 hown hK hP 1 rfl rfl 7 (by decide) (hm 8 (.fieldLink RX0 37 "TankFilter$Estimate" "flowGain" "J") rfl) (fun _ h9 => h9) rfl dX0_copyFrom_58 ?_
  refine va_put (D := D) (ci := 0) (v := .long (f 7)) (ty := .long) (C := RX0) (T := TX0) (N := 8) hx hb hts izX0_copyFrom_0 tyX0 tyX0_ok nmX0 hown hK hP hD hS 0 rfl rfl 7 (by decide) (hm 8 (.fieldLink RX0 37 "TankFilter$Estimate" "flowGain" "J") rfl) (fun _ h9 => h9) rfl (by decide +kernel) rfl rfl (Nat.le_of_ble_eq_true rfl) dX0_copyFrom_61 (fun H locs hP hD hS => ?_)
  have hP : va_P D vwCl ([(h0, .inr (0, [.long (f 0), .long (f 1), .long (f 2), .long (f 3), .long (f 4), .long (f 5), .long (f 6), .long (f 7)])), (h1, .inr (0, tk_ev f))]) H := hP
  have hD : va_D A ([(h0, .inr (0, [.long (f 0), .long (f 1), .long (f 2), .long (f 3), .long (f 4), .long (f 5), .long (f 6), .long (f 7)])), (h1, .inr (0, tk_ev f))]) := hD
  exact W.vret hx hb hr (fun zt ht hW => ⟨⟨(), rfl, trivial, KB.of hAe (by rw [ht]; exact hP) hD⟩, hS.F ht⟩) hS.2.2 dX0_copyFrom_64

def tk_start (x v a c : Int32) : Nat → Int64 := fun k => match k with
  | 0 => x.toInt64
  | 1 => v.toInt64
  | 2 => a.toInt64
  | 3 => 0
  | 4 => c.toInt64
  | _ => -2000000001

theorem izX0_startFrom_0 : ∀ w ∈ wsX00, w ∈ wsX0_startFrom := fun _ h => List.mem_cons_of_mem _ (List.mem_append_right _ h)
set_option maxHeartbeats 4000000 in
set_option maxRecDepth 100000 in
/-- startFrom -/
theorem k_X0_startFrom (l : Launch) (D : va_G) (cI cM cJ : ClassId) (sz : Nat) (h0 : Nat) (e : Nat → Int64) (x v a c : Int32) : Met l yX0_startFrom wsX0_startFrom ({ frames := 0, cells := 0, slots := 0, locals := 0 }) (va_Pc [.ref h0, .int x, .int v, .int a, .int c] (KP D (tk_T cI cM cJ) ([(h0, .inr (0, tk_ev e))]) sz)) (va_Qv (fun (u : Unit) => True) (fun u zt => KB D ([(h0, .inr (0, tk_ev e))]) ([(h0, .inr (0, tk_ev (tk_start x v a c)))]) sz zt) (va_A ([(h0, .inr (0, tk_ev e))]) sz)) 0 0 (va_A ([(h0, .inr (0, tk_ev e))]) sz) := by
  refine Met.ofW (cc := cX0_startFrom) (maxL := 5) (ret := none) (by decide) rfl ?_
  intro zp ze zs zm zargs zbelow zmeth zc zs1 B hml hv
  obtain ⟨rfl, hsz, hP, hK, hD0, hN⟩ := hv
  have hx := B.exec
  have hb := B.bytes
  have hr := B.returns
  have hts := atoms_spec (ws := wsX0_startFrom) B.pre
  have hm : ∀ (i : Nat) (w : Cond), wsX0_startFrom[i]? = some w → w.before _ zs = true := fun i w h => hts w (List.mem_of_getElem? h)
  have hown : zs.vm.findClass RX0 = some zm.cls := findClass_of_methodNamed B.named
  have hlocks := B.notSynchronized
  subst hsz
  have hD := hD0.self (sz := zs.heap.size)
  generalize hAe : va_A ([(h0, .inr (0, tk_ev e))]) zs.heap.size = A at hD ⊢
  have hA : ∀ q : Nat, zs.heap.size ≤ q → A q := fun q h => by rw [← hAe]; exact Or.inr h
  have hS : va_S A zs.heap zs.heap [] := va_S.rf
  have hP : va_P D vwCl ([(h0, .inr (0, tk_ev e))]) zs.heap := hP
  have hl := lv_entry ([.ref h0, .int x, .int v, .int a, .int c]) (n := 5) (Nat.le_of_ble_eq_true rfl)
  rw [lg_entry_eq]
  generalize (lg_sl ([.ref h0, .int x, .int v, .int a, .int c]) ++ List.replicate (5 - (lg_sl ([.ref h0, .int x, .int v, .int a, .int c])).length) Slot.unset).toArray = ls at hl ⊢
  have hl : lv_has ls 5 [(0, .ref h0), (1, .int x), (2, .int v), (3, .int a), (4, .int c)] := hl
  refine lv_aload_n hx hb dX0_startFrom_0 rfl (lv_at hl 0 rfl) ?_
  refine lv_iload_n hx hb dX0_startFrom_1 rfl (lv_at hl 1 rfl) ?_
  refine lv_i2l hx hb dX0_startFrom_2 rfl ?_
  refine va_put (D := D) (ci := 0) (v := .long x.toInt64) (ty := .long) (C := RX0) (T := TX0) (N := 8) hx hb hts izX0_startFrom_0 tyX0 tyX0_ok nmX0 hown hK hP hD hS 0 rfl rfl 0 (by decide) (hm 1 (.fieldLink RX0 9 "TankFilter$Estimate" "level" "J") rfl) (fun _ h9 => h9) rfl (by decide +kernel) rfl rfl (Nat.le_of_ble_eq_true rfl) dX0_startFrom_3 (fun H locs hP hD hS => ?_)
  have hP : va_P D vwCl ([(h0, .inr (0, [.long x.toInt64, .long (e 1), .long (e 2), .long (e 3), .long (e 4), .long (e 5), .long (e 6), .long (e 7)]))]) H := hP
  have hD : va_D A ([(h0, .inr (0, [.long x.toInt64, .long (e 1), .long (e 2), .long (e 3), .long (e 4), .long (e 5), .long (e 6), .long (e 7)]))]) := hD
  refine lv_aload_n hx hb dX0_startFrom_6 rfl (lv_at hl 0 rfl) ?_
  refine lv_iload_n hx hb dX0_startFrom_7 rfl (lv_at hl 2 rfl) ?_
  refine lv_i2l hx hb dX0_startFrom_8 rfl ?_
  refine va_put (D := D) (ci := 0) (v := .long v.toInt64) (ty := .long) (C := RX0) (T := TX0) (N := 8) hx hb hts izX0_startFrom_0 tyX0 tyX0_ok nmX0 hown hK hP hD hS 0 rfl rfl 1 (by decide) (hm 2 (.fieldLink RX0 15 "TankFilter$Estimate" "flow" "J") rfl) (fun _ h9 => h9) rfl (by decide +kernel) rfl rfl (Nat.le_of_ble_eq_true rfl) dX0_startFrom_9 (fun H locs hP hD hS => ?_)
  have hP : va_P D vwCl ([(h0, .inr (0, [.long x.toInt64, .long v.toInt64, .long (e 2), .long (e 3), .long (e 4), .long (e 5), .long (e 6), .long (e 7)]))]) H := hP
  have hD : va_D A ([(h0, .inr (0, [.long x.toInt64, .long v.toInt64, .long (e 2), .long (e 3), .long (e 4), .long (e 5), .long (e 6), .long (e 7)]))]) := hD
  refine lv_aload_n hx hb dX0_startFrom_12 rfl (lv_at hl 0 rfl) ?_
  refine lv_iload_n hx hb dX0_startFrom_13 rfl (lv_at hl 3 rfl) ?_
  refine lv_i2l hx hb dX0_startFrom_14 rfl ?_
  refine va_put (D := D) (ci := 0) (v := .long a.toInt64) (ty := .long) (C := RX0) (T := TX0) (N := 8) hx hb hts izX0_startFrom_0 tyX0 tyX0_ok nmX0 hown hK hP hD hS 0 rfl rfl 2 (by decide) (hm 3 (.fieldLink RX0 20 "TankFilter$Estimate" "levelVariance" "J") rfl) (fun _ h9 => h9) rfl (by decide +kernel) rfl rfl (Nat.le_of_ble_eq_true rfl) dX0_startFrom_15 (fun H locs hP hD hS => ?_)
  have hP : va_P D vwCl ([(h0, .inr (0, [.long x.toInt64, .long v.toInt64, .long a.toInt64, .long (e 3), .long (e 4), .long (e 5), .long (e 6), .long (e 7)]))]) H := hP
  have hD : va_D A ([(h0, .inr (0, [.long x.toInt64, .long v.toInt64, .long a.toInt64, .long (e 3), .long (e 4), .long (e 5), .long (e 6), .long (e 7)]))]) := hD
  refine lv_aload_n hx hb dX0_startFrom_18 rfl (lv_at hl 0 rfl) ?_
  refine lv_lconst (v := 0) hx hb dX0_startFrom_19 (by decide) ?_
  refine va_put (D := D) (ci := 0) (v := .long 0) (ty := .long) (C := RX0) (T := TX0) (N := 8) hx hb hts izX0_startFrom_0 tyX0 tyX0_ok nmX0 hown hK hP hD hS 0 rfl rfl 3 (by decide) (hm 4 (.fieldLink RX0 23 "TankFilter$Estimate" "covariance" "J") rfl) (fun _ h9 => h9) rfl (by decide +kernel) rfl rfl (Nat.le_of_ble_eq_true rfl) dX0_startFrom_20 (fun H locs hP hD hS => ?_)
  have hP : va_P D vwCl ([(h0, .inr (0, [.long x.toInt64, .long v.toInt64, .long a.toInt64, .long 0, .long (e 4), .long (e 5), .long (e 6), .long (e 7)]))]) H := hP
  have hD : va_D A ([(h0, .inr (0, [.long x.toInt64, .long v.toInt64, .long a.toInt64, .long 0, .long (e 4), .long (e 5), .long (e 6), .long (e 7)]))]) := hD
  refine lv_aload_n hx hb dX0_startFrom_23 rfl (lv_at hl 0 rfl) ?_
  refine lv_iload hx hb dX0_startFrom_24 (lv_at hl 4 rfl) ?_
  refine lv_i2l hx hb dX0_startFrom_26 rfl ?_
  refine va_put (D := D) (ci := 0) (v := .long c.toInt64) (ty := .long) (C := RX0) (T := TX0) (N := 8) hx hb hts izX0_startFrom_0 tyX0 tyX0_ok nmX0 hown hK hP hD hS 0 rfl rfl 4 (by decide) (hm 5 (.fieldLink RX0 26 "TankFilter$Estimate" "flowVariance" "J") rfl) (fun _ h9 => h9) rfl (by decide +kernel) rfl rfl (Nat.le_of_ble_eq_true rfl) dX0_startFrom_27 (fun H locs hP hD hS => ?_)
  have hP : va_P D vwCl ([(h0, .inr (0, [.long x.toInt64, .long v.toInt64, .long a.toInt64, .long 0, .long c.toInt64, .long (e 5), .long (e 6), .long (e 7)]))]) H := hP
  have hD : va_D A ([(h0, .inr (0, [.long x.toInt64, .long v.toInt64, .long a.toInt64, .long 0, .long c.toInt64, .long (e 5), .long (e 6), .long (e 7)]))]) := hD
  refine lv_aload_n hx hb dX0_startFrom_30 rfl (lv_at hl 0 rfl) ?_
  refine lv_ldc2 (v := -2000000001) hx hb hown (hm 6 (.constantLong RX0 29 (-2000000001)) rfl) dX0_startFrom_31 ?_
  refine va_put (D := D) (ci := 0) (v := .long (-2000000001)) (ty := .long) (C := RX0) (T := TX0) (N := 8) hx hb hts izX0_startFrom_0 tyX0 tyX0_ok nmX0 hown hK hP hD hS 0 rfl rfl 5 (by decide) (hm 7 (.fieldLink RX0 31 "TankFilter$Estimate" "innovation" "J") rfl) (fun _ h9 => h9) rfl (by decide +kernel) rfl rfl (Nat.le_of_ble_eq_true rfl) dX0_startFrom_34 (fun H locs hP hD hS => ?_)
  have hP : va_P D vwCl ([(h0, .inr (0, [.long x.toInt64, .long v.toInt64, .long a.toInt64, .long 0, .long c.toInt64, .long (-2000000001), .long (e 6), .long (e 7)]))]) H := hP
  have hD : va_D A ([(h0, .inr (0, [.long x.toInt64, .long v.toInt64, .long a.toInt64, .long 0, .long c.toInt64, .long (-2000000001), .long (e 6), .long (e 7)]))]) := hD
  refine lv_aload_n hx hb dX0_startFrom_37 rfl (lv_at hl 0 rfl) ?_
  refine lv_ldc2 (v := -2000000001) hx hb hown (hm 6 (.constantLong RX0 29 (-2000000001)) rfl) dX0_startFrom_38 ?_
  refine va_put (D := D) (ci := 0) (v := .long (-2000000001)) (ty := .long) (C := RX0) (T := TX0) (N := 8) hx hb hts izX0_startFrom_0 tyX0 tyX0_ok nmX0 hown hK hP hD hS 0 rfl rfl 6 (by decide) (hm 8 (.fieldLink RX0 34 "TankFilter$Estimate" "levelGain" "J") rfl) (fun _ h9 => h9) rfl (by decide +kernel) rfl rfl (Nat.le_of_ble_eq_true rfl) dX0_startFrom_41 (fun H locs hP hD hS => ?_)
  have hP : va_P D vwCl ([(h0, .inr (0, [.long x.toInt64, .long v.toInt64, .long a.toInt64, .long 0, .long c.toInt64, .long (-2000000001), .long (-2000000001), .long (e 7)]))]) H := hP
  have hD : va_D A ([(h0, .inr (0, [.long x.toInt64, .long v.toInt64, .long a.toInt64, .long 0, .long c.toInt64, .long (-2000000001), .long (-2000000001), .long (e 7)]))]) := hD
  refine lv_aload_n hx hb dX0_startFrom_44 rfl (lv_at hl 0 rfl) ?_
  refine lv_ldc2 (v := -2000000001) hx hb hown (hm 6 (.constantLong RX0 29 (-2000000001)) rfl) dX0_startFrom_45 ?_
  refine va_put (D := D) (ci := 0) (v := .long (-2000000001)) (ty := .long) (C := RX0) (T := TX0) (N := 8) hx hb hts izX0_startFrom_0 tyX0 tyX0_ok nmX0 hown hK hP hD hS 0 rfl rfl 7 (by decide) (hm 9 (.fieldLink RX0 37 "TankFilter$Estimate" "flowGain" "J") rfl) (fun _ h9 => h9) rfl (by decide +kernel) rfl rfl (Nat.le_of_ble_eq_true rfl) dX0_startFrom_48 (fun H locs hP hD hS => ?_)
  have hP : va_P D vwCl ([(h0, .inr (0, [.long x.toInt64, .long v.toInt64, .long a.toInt64, .long 0, .long c.toInt64, .long (-2000000001), .long (-2000000001), .long (-2000000001)]))]) H := hP
  have hD : va_D A ([(h0, .inr (0, [.long x.toInt64, .long v.toInt64, .long a.toInt64, .long 0, .long c.toInt64, .long (-2000000001), .long (-2000000001), .long (-2000000001)]))]) := hD
  exact W.vret hx hb hr (fun zt ht hW => ⟨⟨(), rfl, trivial, KB.of hAe (by rw [ht]; exact hP) hD⟩, hS.F ht⟩) hS.2.2 dX0_startFrom_51

theorem izX0_mixStateInto_0 : ∀ w ∈ wsX00, w ∈ wsX0_mixStateInto := fun _ h => List.mem_cons_of_mem _ (List.mem_append_right _ h)
set_option maxHeartbeats 4000000 in
set_option maxRecDepth 100000 in
/-- mixStateInto -/
theorem k_X0_mixStateInto (l : Launch) (D : va_G) (cI cM cJ : ClassId) (sz : Nat) (h0 : Nat) (e : Nat → Int64) (h : Int64) : Met l yX0_mixStateInto wsX0_mixStateInto ({ frames := 1, cells := 0, slots := 0, locals := 23 }) (va_Pc [.ref h0, .long h] (KP D (tk_T cI cM cJ) ([(h0, .inr (0, tk_ev e))]) sz)) (va_Ql (fun (r : Int64) (u : Unit) => r = tk_h (tk_h (tk_h (tk_h (tk_h h (e 0)) (e 1)) (e 2)) (e 3)) (e 4)) (fun u zt => KB D ([(h0, .inr (0, tk_ev e))]) ([(h0, .inr (0, tk_ev e))]) sz zt) (va_A ([(h0, .inr (0, tk_ev e))]) sz)) 0 0 (va_A ([(h0, .inr (0, tk_ev e))]) sz) := by
  refine Met.ofW (cc := cX0_mixStateInto) (maxL := 3) (ret := (some .long)) (by decide) rfl ?_
  intro zp ze zs zm zargs zbelow zmeth zc zs1 B hml hv
  obtain ⟨rfl, hsz, hP, hK, hD0, hN⟩ := hv
  have hx := B.exec
  have hb := B.bytes
  have hr := B.returns
  have hts := atoms_spec (ws := wsX0_mixStateInto) B.pre
  have hm : ∀ (i : Nat) (w : Cond), wsX0_mixStateInto[i]? = some w → w.before _ zs = true := fun i w h => hts w (List.mem_of_getElem? h)
  have hown : zs.vm.findClass RX0 = some zm.cls := findClass_of_methodNamed B.named
  have hlocks := B.notSynchronized
  subst hsz
  have hD := hD0.self (sz := zs.heap.size)
  generalize hAe : va_A ([(h0, .inr (0, tk_ev e))]) zs.heap.size = A at hD ⊢
  have hA : ∀ q : Nat, zs.heap.size ≤ q → A q := fun q h => by rw [← hAe]; exact Or.inr h
  have hS : va_S A zs.heap zs.heap [] := va_S.rf
  have hP : va_P D vwCl ([(h0, .inr (0, tk_ev e))]) zs.heap := hP
  have hl := lv_entry ([.ref h0, .long h]) (n := 3) (Nat.le_of_ble_eq_true rfl)
  rw [lg_entry_eq]
  generalize (lg_sl ([.ref h0, .long h]) ++ List.replicate (3 - (lg_sl ([.ref h0, .long h])).length) Slot.unset).toArray = ls at hl ⊢
  have hl : lv_has ls 3 [(0, .ref h0), (1, .long h)] := hl
  refine lv_lload_n hx hb dX0_mixStateInto_0 rfl (lv_at hl 1 rfl) ?_
  refine lv_aload_n hx hb dX0_mixStateInto_1 rfl (lv_at hl 0 rfl) ?_
  refine va_get (D := D) (ci := 0) (v := .long (e 0)) (C := RX0) (T := TX0) (N := 8) hx hb hts izX0_mixStateInto_0 hown hK hP 0 rfl rfl 0 (by decide) (hm 1 (.fieldLink RX0 9 "TankFilter$Estimate" "level" "J") rfl) (fun _ h9 => h9) rfl dX0_mixStateInto_2 ?_
  refine kc_l (wc := []) (wr := [(h0, .inr (0, tk_ev e))]) (va_runSN (As := [.long h, .long (e 0)]) (rest := []) ⟨hx, hb, hml, hown, hts⟩ (k_X3_mix l D cI cM cJ _ h (e 0)) ⟨va_cnB 2 hts gX0_mixStateInto_X3_mix_n67 rfl rfl rfl (hN.at 43 rfl) (hm 7 (.initialized RX3) rfl) (by decide +kernel) ⟨Nat.le_of_ble_eq_true rfl, Nat.le_of_ble_eq_true rfl⟩, (hm 6 (.static yX3_mix) rfl), trivial⟩ (kp_preS (wc := []) (wr := [(h0, .inr (0, tk_ev e))]) hN hK hP hD) rfl rfl hl.1 rfl (lv_room (Nat.le_of_ble_eq_true rfl)) dX0_mixStateInto_5 ⟨Nat.le_of_ble_eq_true rfl, Nat.le_of_ble_eq_true rfl⟩) hP hD hS hA (fun r_1 u_1 H locs p_1 hP hD hS => ?_)
  obtain rfl : r_1 = tk_h h (e 0) := p_1
  have hP : va_P D vwCl ([(h0, .inr (0, tk_ev e))]) H := hP
  have hD : va_D A ([(h0, .inr (0, tk_ev e))]) := hD
  refine lv_lstore_n (lv' := [(1, .long (tk_h h (e 0))), (0, .ref h0)]) hx hb dX0_mixStateInto_8 rfl hl (by decide) rfl (fun ls hl => ?_)
  refine lv_lload_n hx hb dX0_mixStateInto_9 rfl (lv_at hl 0 rfl) ?_
  refine lv_aload_n hx hb dX0_mixStateInto_10 rfl (lv_at hl 1 rfl) ?_
  refine va_get (D := D) (ci := 0) (v := .long (e 1)) (C := RX0) (T := TX0) (N := 8) hx hb hts izX0_mixStateInto_0 hown hK hP 0 rfl rfl 1 (by decide) (hm 2 (.fieldLink RX0 15 "TankFilter$Estimate" "flow" "J") rfl) (fun _ h9 => h9) rfl dX0_mixStateInto_11 ?_
  refine kc_l (wc := []) (wr := [(h0, .inr (0, tk_ev e))]) (va_runSN (As := [.long (tk_h h (e 0)), .long (e 1)]) (rest := []) ⟨hx, hb, hml, hown, hts⟩ (k_X3_mix l D cI cM cJ _ (tk_h h (e 0)) (e 1)) ⟨va_cnB 2 hts gX0_mixStateInto_X3_mix_n67 rfl rfl rfl (hN.at 43 rfl) (hm 7 (.initialized RX3) rfl) (by decide +kernel) ⟨Nat.le_of_ble_eq_true rfl, Nat.le_of_ble_eq_true rfl⟩, (hm 6 (.static yX3_mix) rfl), trivial⟩ (kp_preS (wc := []) (wr := [(h0, .inr (0, tk_ev e))]) hN hK hP hD) rfl rfl hl.1 rfl (lv_room (Nat.le_of_ble_eq_true rfl)) dX0_mixStateInto_14 ⟨Nat.le_of_ble_eq_true rfl, Nat.le_of_ble_eq_true rfl⟩) hP hD hS hA (fun r_2 u_2 H locs p_2 hP hD hS => ?_)
  obtain rfl : r_2 = tk_h (tk_h h (e 0)) (e 1) := p_2
  have hP : va_P D vwCl ([(h0, .inr (0, tk_ev e))]) H := hP
  have hD : va_D A ([(h0, .inr (0, tk_ev e))]) := hD
  refine lv_lstore_n (lv' := [(1, .long (tk_h (tk_h h (e 0)) (e 1))), (0, .ref h0)]) hx hb dX0_mixStateInto_17 rfl hl (by decide) rfl (fun ls hl => ?_)
  refine lv_lload_n hx hb dX0_mixStateInto_18 rfl (lv_at hl 0 rfl) ?_
  refine lv_aload_n hx hb dX0_mixStateInto_19 rfl (lv_at hl 1 rfl) ?_
  refine va_get (D := D) (ci := 0) (v := .long (e 2)) (C := RX0) (T := TX0) (N := 8) hx hb hts izX0_mixStateInto_0 hown hK hP 0 rfl rfl 2 (by decide) (hm 3 (.fieldLink RX0 20 "TankFilter$Estimate" "levelVariance" "J") rfl) (fun _ h9 => h9) rfl dX0_mixStateInto_20 ?_
  refine kc_l (wc := []) (wr := [(h0, .inr (0, tk_ev e))]) (va_runSN (As := [.long (tk_h (tk_h h (e 0)) (e 1)), .long (e 2)]) (rest := []) ⟨hx, hb, hml, hown, hts⟩ (k_X3_mix l D cI cM cJ _ (tk_h (tk_h h (e 0)) (e 1)) (e 2)) ⟨va_cnB 2 hts gX0_mixStateInto_X3_mix_n67 rfl rfl rfl (hN.at 43 rfl) (hm 7 (.initialized RX3) rfl) (by decide +kernel) ⟨Nat.le_of_ble_eq_true rfl, Nat.le_of_ble_eq_true rfl⟩, (hm 6 (.static yX3_mix) rfl), trivial⟩ (kp_preS (wc := []) (wr := [(h0, .inr (0, tk_ev e))]) hN hK hP hD) rfl rfl hl.1 rfl (lv_room (Nat.le_of_ble_eq_true rfl)) dX0_mixStateInto_23 ⟨Nat.le_of_ble_eq_true rfl, Nat.le_of_ble_eq_true rfl⟩) hP hD hS hA (fun r_3 u_3 H locs p_3 hP hD hS => ?_)
  obtain rfl : r_3 = tk_h (tk_h (tk_h h (e 0)) (e 1)) (e 2) := p_3
  have hP : va_P D vwCl ([(h0, .inr (0, tk_ev e))]) H := hP
  have hD : va_D A ([(h0, .inr (0, tk_ev e))]) := hD
  refine lv_lstore_n (lv' := [(1, .long (tk_h (tk_h (tk_h h (e 0)) (e 1)) (e 2))), (0, .ref h0)]) hx hb dX0_mixStateInto_26 rfl hl (by decide) rfl (fun ls hl => ?_)
  refine lv_lload_n hx hb dX0_mixStateInto_27 rfl (lv_at hl 0 rfl) ?_
  refine lv_aload_n hx hb dX0_mixStateInto_28 rfl (lv_at hl 1 rfl) ?_
  refine va_get (D := D) (ci := 0) (v := .long (e 3)) (C := RX0) (T := TX0) (N := 8) hx hb hts izX0_mixStateInto_0 hown hK hP 0 rfl rfl 3 (by decide) (hm 4 (.fieldLink RX0 23 "TankFilter$Estimate" "covariance" "J") rfl) (fun _ h9 => h9) rfl dX0_mixStateInto_29 ?_
  refine kc_l (wc := []) (wr := [(h0, .inr (0, tk_ev e))]) (va_runSN (As := [.long (tk_h (tk_h (tk_h h (e 0)) (e 1)) (e 2)), .long (e 3)]) (rest := []) ⟨hx, hb, hml, hown, hts⟩ (k_X3_mix l D cI cM cJ _ (tk_h (tk_h (tk_h h (e 0)) (e 1)) (e 2)) (e 3)) ⟨va_cnB 2 hts gX0_mixStateInto_X3_mix_n67 rfl rfl rfl (hN.at 43 rfl) (hm 7 (.initialized RX3) rfl) (by decide +kernel) ⟨Nat.le_of_ble_eq_true rfl, Nat.le_of_ble_eq_true rfl⟩, (hm 6 (.static yX3_mix) rfl), trivial⟩ (kp_preS (wc := []) (wr := [(h0, .inr (0, tk_ev e))]) hN hK hP hD) rfl rfl hl.1 rfl (lv_room (Nat.le_of_ble_eq_true rfl)) dX0_mixStateInto_32 ⟨Nat.le_of_ble_eq_true rfl, Nat.le_of_ble_eq_true rfl⟩) hP hD hS hA (fun r_4 u_4 H locs p_4 hP hD hS => ?_)
  obtain rfl : r_4 = tk_h (tk_h (tk_h (tk_h h (e 0)) (e 1)) (e 2)) (e 3) := p_4
  have hP : va_P D vwCl ([(h0, .inr (0, tk_ev e))]) H := hP
  have hD : va_D A ([(h0, .inr (0, tk_ev e))]) := hD
  refine lv_lstore_n (lv' := [(1, .long (tk_h (tk_h (tk_h (tk_h h (e 0)) (e 1)) (e 2)) (e 3))), (0, .ref h0)]) hx hb dX0_mixStateInto_35 rfl hl (by decide) rfl (fun ls hl => ?_)
  refine lv_lload_n hx hb dX0_mixStateInto_36 rfl (lv_at hl 0 rfl) ?_
  refine lv_aload_n hx hb dX0_mixStateInto_37 rfl (lv_at hl 1 rfl) ?_
  refine va_get (D := D) (ci := 0) (v := .long (e 4)) (C := RX0) (T := TX0) (N := 8) hx hb hts izX0_mixStateInto_0 hown hK hP 0 rfl rfl 4 (by decide) (hm 5 (.fieldLink RX0 26 "TankFilter$Estimate" "flowVariance" "J") rfl) (fun _ h9 => h9) rfl dX0_mixStateInto_38 ?_
  refine kc_l (wc := []) (wr := [(h0, .inr (0, tk_ev e))]) (va_runSN (As := [.long (tk_h (tk_h (tk_h (tk_h h (e 0)) (e 1)) (e 2)) (e 3)), .long (e 4)]) (rest := []) ⟨hx, hb, hml, hown, hts⟩ (k_X3_mix l D cI cM cJ _ (tk_h (tk_h (tk_h (tk_h h (e 0)) (e 1)) (e 2)) (e 3)) (e 4)) ⟨va_cnB 2 hts gX0_mixStateInto_X3_mix_n67 rfl rfl rfl (hN.at 43 rfl) (hm 7 (.initialized RX3) rfl) (by decide +kernel) ⟨Nat.le_of_ble_eq_true rfl, Nat.le_of_ble_eq_true rfl⟩, (hm 6 (.static yX3_mix) rfl), trivial⟩ (kp_preS (wc := []) (wr := [(h0, .inr (0, tk_ev e))]) hN hK hP hD) rfl rfl hl.1 rfl (lv_room (Nat.le_of_ble_eq_true rfl)) dX0_mixStateInto_41 ⟨Nat.le_of_ble_eq_true rfl, Nat.le_of_ble_eq_true rfl⟩) hP hD hS hA (fun r_5 u_5 H locs p_5 hP hD hS => ?_)
  obtain rfl : r_5 = tk_h (tk_h (tk_h (tk_h (tk_h h (e 0)) (e 1)) (e 2)) (e 3)) (e 4) := p_5
  have hP : va_P D vwCl ([(h0, .inr (0, tk_ev e))]) H := hP
  have hD : va_D A ([(h0, .inr (0, tk_ev e))]) := hD
  exact W.lret (v := tk_h (tk_h (tk_h (tk_h (tk_h h (e 0)) (e 1)) (e 2)) (e 3)) (e 4)) hx hb hr (fun zt ht hW => ⟨⟨tk_h (tk_h (tk_h (tk_h (tk_h h (e 0)) (e 1)) (e 2)) (e 3)) (e 4), (), rfl, rfl, KB.of hAe (by rw [ht]; exact hP) hD⟩, hS.F ht⟩) hS.2.2 dX0_mixStateInto_44

theorem izX0_mixLatestReadingInto_0 : ∀ w ∈ wsX00, w ∈ wsX0_mixLatestReadingInto := fun _ h => List.mem_cons_of_mem _ (List.mem_append_right _ h)
set_option maxHeartbeats 4000000 in
set_option maxRecDepth 100000 in
/-- mixLatestReadingInto -/
theorem k_X0_mixLatestReadingInto (l : Launch) (D : va_G) (cI cM cJ : ClassId) (sz : Nat) (h0 : Nat) (e : Nat → Int64) (h : Int64) : Met l yX0_mixLatestReadingInto wsX0_mixLatestReadingInto ({ frames := 1, cells := 0, slots := 0, locals := 23 }) (va_Pc [.ref h0, .long h] (KP D (tk_T cI cM cJ) ([(h0, .inr (0, tk_ev e))]) sz)) (va_Ql (fun (r : Int64) (u : Unit) => r = tk_h (tk_h (tk_h h (e 5)) (e 6)) (e 7)) (fun u zt => KB D ([(h0, .inr (0, tk_ev e))]) ([(h0, .inr (0, tk_ev e))]) sz zt) (va_A ([(h0, .inr (0, tk_ev e))]) sz)) 0 0 (va_A ([(h0, .inr (0, tk_ev e))]) sz) := by
  refine Met.ofW (cc := cX0_mixLatestReadingInto) (maxL := 3) (ret := (some .long)) (by decide) rfl ?_
  intro zp ze zs zm zargs zbelow zmeth zc zs1 B hml hv
  obtain ⟨rfl, hsz, hP, hK, hD0, hN⟩ := hv
  have hx := B.exec
  have hb := B.bytes
  have hr := B.returns
  have hts := atoms_spec (ws := wsX0_mixLatestReadingInto) B.pre
  have hm : ∀ (i : Nat) (w : Cond), wsX0_mixLatestReadingInto[i]? = some w → w.before _ zs = true := fun i w h => hts w (List.mem_of_getElem? h)
  have hown : zs.vm.findClass RX0 = some zm.cls := findClass_of_methodNamed B.named
  have hlocks := B.notSynchronized
  subst hsz
  have hD := hD0.self (sz := zs.heap.size)
  generalize hAe : va_A ([(h0, .inr (0, tk_ev e))]) zs.heap.size = A at hD ⊢
  have hA : ∀ q : Nat, zs.heap.size ≤ q → A q := fun q h => by rw [← hAe]; exact Or.inr h
  have hS : va_S A zs.heap zs.heap [] := va_S.rf
  have hP : va_P D vwCl ([(h0, .inr (0, tk_ev e))]) zs.heap := hP
  have hl := lv_entry ([.ref h0, .long h]) (n := 3) (Nat.le_of_ble_eq_true rfl)
  rw [lg_entry_eq]
  generalize (lg_sl ([.ref h0, .long h]) ++ List.replicate (3 - (lg_sl ([.ref h0, .long h])).length) Slot.unset).toArray = ls at hl ⊢
  have hl : lv_has ls 3 [(0, .ref h0), (1, .long h)] := hl
  refine lv_lload_n hx hb dX0_mixLatestReadingInto_0 rfl (lv_at hl 1 rfl) ?_
  refine lv_aload_n hx hb dX0_mixLatestReadingInto_1 rfl (lv_at hl 0 rfl) ?_
  refine va_get (D := D) (ci := 0) (v := .long (e 5)) (C := RX0) (T := TX0) (N := 8) hx hb hts izX0_mixLatestReadingInto_0 hown hK hP 0 rfl rfl 5 (by decide) (hm 1 (.fieldLink RX0 31 "TankFilter$Estimate" "innovation" "J") rfl) (fun _ h9 => h9) rfl dX0_mixLatestReadingInto_2 ?_
  refine kc_l (wc := []) (wr := [(h0, .inr (0, tk_ev e))]) (va_runSN (As := [.long h, .long (e 5)]) (rest := []) ⟨hx, hb, hml, hown, hts⟩ (k_X3_mix l D cI cM cJ _ h (e 5)) ⟨va_cnB 2 hts gX0_mixLatestReadingInto_X3_mix_n67 rfl rfl rfl (hN.at 43 rfl) (hm 5 (.initialized RX3) rfl) (by decide +kernel) ⟨Nat.le_of_ble_eq_true rfl, Nat.le_of_ble_eq_true rfl⟩, (hm 4 (.static yX3_mix) rfl), trivial⟩ (kp_preS (wc := []) (wr := [(h0, .inr (0, tk_ev e))]) hN hK hP hD) rfl rfl hl.1 rfl (lv_room (Nat.le_of_ble_eq_true rfl)) dX0_mixLatestReadingInto_5 ⟨Nat.le_of_ble_eq_true rfl, Nat.le_of_ble_eq_true rfl⟩) hP hD hS hA (fun r_1 u_1 H locs p_1 hP hD hS => ?_)
  obtain rfl : r_1 = tk_h h (e 5) := p_1
  have hP : va_P D vwCl ([(h0, .inr (0, tk_ev e))]) H := hP
  have hD : va_D A ([(h0, .inr (0, tk_ev e))]) := hD
  refine lv_lstore_n (lv' := [(1, .long (tk_h h (e 5))), (0, .ref h0)]) hx hb dX0_mixLatestReadingInto_8 rfl hl (by decide) rfl (fun ls hl => ?_)
  refine lv_lload_n hx hb dX0_mixLatestReadingInto_9 rfl (lv_at hl 0 rfl) ?_
  refine lv_aload_n hx hb dX0_mixLatestReadingInto_10 rfl (lv_at hl 1 rfl) ?_
  refine va_get (D := D) (ci := 0) (v := .long (e 6)) (C := RX0) (T := TX0) (N := 8) hx hb hts izX0_mixLatestReadingInto_0 hown hK hP 0 rfl rfl 6 (by decide) (hm 2 (.fieldLink RX0 34 "TankFilter$Estimate" "levelGain" "J") rfl) (fun _ h9 => h9) rfl dX0_mixLatestReadingInto_11 ?_
  refine kc_l (wc := []) (wr := [(h0, .inr (0, tk_ev e))]) (va_runSN (As := [.long (tk_h h (e 5)), .long (e 6)]) (rest := []) ⟨hx, hb, hml, hown, hts⟩ (k_X3_mix l D cI cM cJ _ (tk_h h (e 5)) (e 6)) ⟨va_cnB 2 hts gX0_mixLatestReadingInto_X3_mix_n67 rfl rfl rfl (hN.at 43 rfl) (hm 5 (.initialized RX3) rfl) (by decide +kernel) ⟨Nat.le_of_ble_eq_true rfl, Nat.le_of_ble_eq_true rfl⟩, (hm 4 (.static yX3_mix) rfl), trivial⟩ (kp_preS (wc := []) (wr := [(h0, .inr (0, tk_ev e))]) hN hK hP hD) rfl rfl hl.1 rfl (lv_room (Nat.le_of_ble_eq_true rfl)) dX0_mixLatestReadingInto_14 ⟨Nat.le_of_ble_eq_true rfl, Nat.le_of_ble_eq_true rfl⟩) hP hD hS hA (fun r_2 u_2 H locs p_2 hP hD hS => ?_)
  obtain rfl : r_2 = tk_h (tk_h h (e 5)) (e 6) := p_2
  have hP : va_P D vwCl ([(h0, .inr (0, tk_ev e))]) H := hP
  have hD : va_D A ([(h0, .inr (0, tk_ev e))]) := hD
  refine lv_lstore_n (lv' := [(1, .long (tk_h (tk_h h (e 5)) (e 6))), (0, .ref h0)]) hx hb dX0_mixLatestReadingInto_17 rfl hl (by decide) rfl (fun ls hl => ?_)
  refine lv_lload_n hx hb dX0_mixLatestReadingInto_18 rfl (lv_at hl 0 rfl) ?_
  refine lv_aload_n hx hb dX0_mixLatestReadingInto_19 rfl (lv_at hl 1 rfl) ?_
  refine va_get (D := D) (ci := 0) (v := .long (e 7)) (C := RX0) (T := TX0) (N := 8) hx hb hts izX0_mixLatestReadingInto_0 hown hK hP 0 rfl rfl 7 (by decide) (hm 3 (.fieldLink RX0 37 "TankFilter$Estimate" "flowGain" "J") rfl) (fun _ h9 => h9) rfl dX0_mixLatestReadingInto_20 ?_
  refine kc_l (wc := []) (wr := [(h0, .inr (0, tk_ev e))]) (va_runSN (As := [.long (tk_h (tk_h h (e 5)) (e 6)), .long (e 7)]) (rest := []) ⟨hx, hb, hml, hown, hts⟩ (k_X3_mix l D cI cM cJ _ (tk_h (tk_h h (e 5)) (e 6)) (e 7)) ⟨va_cnB 2 hts gX0_mixLatestReadingInto_X3_mix_n67 rfl rfl rfl (hN.at 43 rfl) (hm 5 (.initialized RX3) rfl) (by decide +kernel) ⟨Nat.le_of_ble_eq_true rfl, Nat.le_of_ble_eq_true rfl⟩, (hm 4 (.static yX3_mix) rfl), trivial⟩ (kp_preS (wc := []) (wr := [(h0, .inr (0, tk_ev e))]) hN hK hP hD) rfl rfl hl.1 rfl (lv_room (Nat.le_of_ble_eq_true rfl)) dX0_mixLatestReadingInto_23 ⟨Nat.le_of_ble_eq_true rfl, Nat.le_of_ble_eq_true rfl⟩) hP hD hS hA (fun r_3 u_3 H locs p_3 hP hD hS => ?_)
  obtain rfl : r_3 = tk_h (tk_h (tk_h h (e 5)) (e 6)) (e 7) := p_3
  have hP : va_P D vwCl ([(h0, .inr (0, tk_ev e))]) H := hP
  have hD : va_D A ([(h0, .inr (0, tk_ev e))]) := hD
  exact W.lret (v := tk_h (tk_h (tk_h h (e 5)) (e 6)) (e 7)) hx hb hr (fun zt ht hW => ⟨⟨tk_h (tk_h (tk_h h (e 5)) (e 6)) (e 7), (), rfl, rfl, KB.of hAe (by rw [ht]; exact hP) hD⟩, hS.F ht⟩) hS.2.2 dX0_mixLatestReadingInto_26
