theorem tk_w_lt {a b : Int32} : a.toInt64 < b.toInt64 ↔ a < b := by
  rw [Int64.lt_iff_toInt_lt, Int32.lt_iff_toInt_lt, Int32.toInt_toInt64, Int32.toInt_toInt64]
theorem tk_w_le {a b : Int32} : a.toInt64 ≤ b.toInt64 ↔ a ≤ b := by
  rw [Int64.le_iff_toInt_le, Int32.le_iff_toInt_le, Int32.toInt_toInt64, Int32.toInt_toInt64]
theorem tk_le3 {a b : Int32} (h : ¬ b ≤ a) : a ≤ b := by
  rw [Int32.le_iff_toInt_le] at h ⊢
  omega
theorem st_go_1 {q w t : Int64} {up : Bool} {i : Nat} {e : Nat → Int64} (h : st_rch up (e 0) t = false) : st_go q w up t 1 i e = -2000000001 := by
  by_cases h2 : ad_ok e 0 q w = true
  · rw [st_go_t h h2 (by omega)]
    rfl
  · rw [st_go_f h (by simpa using h2) (by omega)]

def yf_stepsTo (Y : tk_Y) (E : Nat → Int64) (y : Int32) : Int32 × tk_Y := if tk_rng (-40960000) 40960000 y then (st_go (Y.2.1 5).toInt64 (Y.2.1 6).toInt64 (decide ((E 0) < y.toInt64)) y.toInt64 101 0 E, Y) else (-2000000002, tk_yl Y 0)

theorem izX4_stepsTo_4 : ∀ w ∈ wsX40, w ∈ wsX4_stepsTo := fun _ h => List.mem_cons_of_mem _ (List.mem_append_right _ h)
set_option maxHeartbeats 4000000 in
set_option maxRecDepth 100000 in
/-- stepsTo -/
theorem k_X4_stepsTo (l : Launch) (D : va_G) (cI cM cJ : ClassId) (sz : Nat) (h sa pa er na : Nat) (p : Nat) (s past err : Nat → Int32) (e : Nat → Int64) (hs : Int64) (y : Int32) (hj : tk_jv (tk_s5 s e)) (hw : tk_rng 0 4096000 (s 6)) : Met l yX4_stepsTo wsX4_stepsTo ({ frames := 2, cells := 0, slots := 0, locals := 51 }) (va_Pc [.ref h, .int y] (KP D (tk_T cI cM cJ) ([(h, .inr (4, [.ref sa, .ref pa, .int (nI p), .ref er, .ref na, .long (e 5), .long (e 6), .long (e 7), .long hs])), (sa, .inl (cI, 71, .inl s)), (pa, .inl (cI, 284, .inl past)), (er, .inl (cI, 3, .inl err)), (na, .inl (cJ, 5, .inr (.inl e)))]) sz)) (va_Qi (fun (r : Int32) (u : tk_Y × (Nat → Int64) × Int64) => r = (yf_stepsTo (p, s, past, err) (tk_s5 s e) y).1 ∧ u.1 = (yf_stepsTo (p, s, past, err) (tk_s5 s e) y).2) (fun u zt => KB D ([(h, .inr (4, [.ref sa, .ref pa, .int (nI p), .ref er, .ref na, .long (e 5), .long (e 6), .long (e 7), .long hs])), (sa, .inl (cI, 71, .inl s)), (pa, .inl (cI, 284, .inl past)), (er, .inl (cI, 3, .inl err)), (na, .inl (cJ, 5, .inr (.inl e)))]) ([(h, .inr (4, [.ref sa, .ref pa, .int (nI u.1.1), .ref er, .ref na, .long (u.2.1 5), .long (u.2.1 6), .long (u.2.1 7), .long u.2.2])), (sa, .inl (cI, 71, .inl u.1.2.1)), (pa, .inl (cI, 284, .inl u.1.2.2.1)), (er, .inl (cI, 3, .inl u.1.2.2.2)), (na, .inl (cJ, 5, .inr (.inl u.2.1)))]) sz zt) (va_A ([(h, .inr (4, [.ref sa, .ref pa, .int (nI p), .ref er, .ref na, .long (e 5), .long (e 6), .long (e 7), .long hs])), (sa, .inl (cI, 71, .inl s)), (pa, .inl (cI, 284, .inl past)), (er, .inl (cI, 3, .inl err)), (na, .inl (cJ, 5, .inr (.inl e)))]) sz)) 0 0 (va_A ([(h, .inr (4, [.ref sa, .ref pa, .int (nI p), .ref er, .ref na, .long (e 5), .long (e 6), .long (e 7), .long hs])), (sa, .inl (cI, 71, .inl s)), (pa, .inl (cI, 284, .inl past)), (er, .inl (cI, 3, .inl err)), (na, .inl (cJ, 5, .inr (.inl e)))]) sz) := by
  refine Met.ofW (cc := cX4_stepsTo) (maxL := 5) (ret := (some .int)) (by decide) rfl ?_
  intro zp ze zs zm zargs zbelow zmeth zc zs1 B hml hv
  obtain ⟨rfl, hsz, hP, hK, hD0, hN⟩ := hv
  have hx := B.exec
  have hb := B.bytes
  have hr := B.returns
  have hts := atoms_spec (ws := wsX4_stepsTo) B.pre
  have hm : ∀ (i : Nat) (w : Cond), wsX4_stepsTo[i]? = some w → w.before _ zs = true := fun i w h => hts w (List.mem_of_getElem? h)
  have hown : zs.vm.findClass RX4 = some zm.cls := findClass_of_methodNamed B.named
  have hlocks := B.notSynchronized
  subst hsz
  have hD := hD0.self (sz := zs.heap.size)
  generalize hAe : va_A ([(h, .inr (4, [.ref sa, .ref pa, .int (nI p), .ref er, .ref na, .long (e 5), .long (e 6), .long (e 7), .long hs])), (sa, .inl (cI, 71, .inl s)), (pa, .inl (cI, 284, .inl past)), (er, .inl (cI, 3, .inl err)), (na, .inl (cJ, 5, .inr (.inl e)))]) zs.heap.size = A at hD ⊢
  have hA : ∀ q : Nat, zs.heap.size ≤ q → A q := fun q h => by rw [← hAe]; exact Or.inr h
  have hS : va_S A zs.heap zs.heap [] := va_S.rf
  have hP : va_P D vwCl ([(h, .inr (4, [.ref sa, .ref pa, .int (nI p), .ref er, .ref na, .long (e 5), .long (e 6), .long (e 7), .long hs])), (sa, .inl (cI, 71, .inl s)), (pa, .inl (cI, 284, .inl past)), (er, .inl (cI, 3, .inl err)), (na, .inl (cJ, 5, .inr (.inl e)))]) zs.heap := hP
  have hl := lv_entry ([.ref h, .int y]) (n := 5) (Nat.le_of_ble_eq_true rfl)
  rw [lg_entry_eq]
  generalize (lg_sl ([.ref h, .int y]) ++ List.replicate (5 - (lg_sl ([.ref h, .int y])).length) Slot.unset).toArray = ls at hl ⊢
  have hl : lv_has ls 5 [(0, .ref h), (1, .int y)] := hl
  refine lv_iload_n hx hb dX4_stepsTo_0 rfl (lv_at hl 1 rfl) ?_
  refine lv_ldc (v := -40960000) hx hb hown (hm 1 (.constant RX4 66 (-40960000)) rfl) dX4_stepsTo_1 ?_
  refine lv_ldc (v := 40960000) hx hb hown (hm 2 (.constant RX4 67 (40960000)) rfl) dX4_stepsTo_3 ?_
  refine kc_i (wc := []) (wr := [(h, .inr (4, [.ref sa, .ref pa, .int (nI p), .ref er, .ref na, .long (e 5), .long (e 6), .long (e 7), .long hs])), (sa, .inl (cI, 71, .inl s)), (pa, .inl (cI, 284, .inl past)), (er, .inl (cI, 3, .inl err)), (na, .inl (cJ, 5, .inr (.inl e)))]) (va_runS (As := [.int y, .int (-40960000), .int 40960000]) (rest := []) ⟨hx, hb, hml, hown, hts⟩ (k_X4_in l D cI cM cJ _ y (-40960000) 40960000) (va_cwS 3 hts gX4_stepsTo_X4_in rfl rfl rfl (by decide +kernel) ⟨Nat.le_of_ble_eq_true rfl, Nat.le_of_ble_eq_true rfl⟩) (kp_preS (wc := []) (wr := [(h, .inr (4, [.ref sa, .ref pa, .int (nI p), .ref er, .ref na, .long (e 5), .long (e 6), .long (e 7), .long hs])), (sa, .inl (cI, 71, .inl s)), (pa, .inl (cI, 284, .inl past)), (er, .inl (cI, 3, .inl err)), (na, .inl (cJ, 5, .inr (.inl e)))]) hN hK hP hD) rfl rfl hl.1 rfl (lv_room (Nat.le_of_ble_eq_true rfl)) dX4_stepsTo_5 ⟨Nat.le_of_ble_eq_true rfl, Nat.le_of_ble_eq_true rfl⟩) hP hD hS hA (fun r_1 u_1 H locs p_1 hP hD hS => ?_)
  rcases p_1 with ⟨p_1, rfl⟩ | ⟨p_1, rfl⟩
  · have hP : va_P D vwCl ([(h, .inr (4, [.ref sa, .ref pa, .int (nI p), .ref er, .ref na, .long (e 5), .long (e 6), .long (e 7), .long hs])), (sa, .inl (cI, 71, .inl s)), (pa, .inl (cI, 284, .inl past)), (er, .inl (cI, 3, .inl err)), (na, .inl (cJ, 5, .inr (.inl e)))]) H := hP
    have hD : va_D A ([(h, .inr (4, [.ref sa, .ref pa, .int (nI p), .ref er, .ref na, .long (e 5), .long (e 6), .long (e 7), .long hs])), (sa, .inl (cI, 71, .inl s)), (pa, .inl (cI, 284, .inl past)), (er, .inl (cI, 3, .inl err)), (na, .inl (cJ, 5, .inr (.inl e)))]) := hD
    refine lv_if_ne (tgt := 18) hx hb dX4_stepsTo_8 (by decide) (fun c_2 => ?_) (fun c_2 => ?_)
    · skip
      refine lv_aload_n hx hb dX4_stepsTo_18 rfl (lv_at hl 0 rfl) ?_
      refine va_get (D := D) (ci := 4) (v := .ref sa) (C := RX4) (T := TX4) (N := 9) hx hb hts izX4_stepsTo_4 hown hK hP 0 rfl rfl 0 (by decide) (hm 4 (.fieldLink RX4 7 "TankFilterModel" "s" "[I") rfl) (fun _ h9 => h9) rfl dX4_stepsTo_19 ?_
      refine lv_iconst (v := 0) hx hb dX4_stepsTo_22 (by decide) ?_
      refine ka_ild (D := D) (j := 0) (n := 71) (f := s) hx hb hK hP 1 0 rfl rfl (rfl) (by decide) (by decide) dX4_stepsTo_23 ?_
      refine lv_iload_n hx hb dX4_stepsTo_24 rfl (lv_at hl 1 rfl) ?_
      refine lv_icmp_ge (tgt := 32) hx hb dX4_stepsTo_25 (by decide) (fun c_3 => ?_) (fun c_3 => ?_)
      · skip
        refine lv_iconst (v := 0) hx hb dX4_stepsTo_32 (by decide) ?_
        refine lv_istore_n (lv' := [(2, .int 0), (0, .ref h), (1, .int y)]) hx hb dX4_stepsTo_33 rfl hl (by decide) rfl (fun ls hl => ?_)
        refine lv_aload_n hx hb dX4_stepsTo_34 rfl (lv_at hl 1 rfl) ?_
        refine va_get (D := D) (ci := 4) (v := .ref sa) (C := RX4) (T := TX4) (N := 9) hx hb hts izX4_stepsTo_4 hown hK hP 0 rfl rfl 0 (by decide) (hm 4 (.fieldLink RX4 7 "TankFilterModel" "s" "[I") rfl) (fun _ h9 => h9) rfl dX4_stepsTo_35 ?_
        refine lv_iconst (v := 0) hx hb dX4_stepsTo_38 (by decide) ?_
        refine ka_ild (D := D) (j := 0) (n := 71) (f := s) hx hb hK hP 1 0 rfl rfl (rfl) (by decide) (by decide) dX4_stepsTo_39 ?_
        refine lv_iload_n hx hb dX4_stepsTo_40 rfl (lv_at hl 2 rfl) ?_
        refine lv_icmp_le (tgt := 48) hx hb dX4_stepsTo_41 (by decide) (fun c_4 => ?_) (fun c_4 => ?_)
        · skip
          refine lv_iconst (v := 0) hx hb dX4_stepsTo_48 (by decide) ?_
          refine lv_istore_n (lv' := [(3, .int 0), (2, .int 0), (0, .ref h), (1, .int y)]) hx hb dX4_stepsTo_49 rfl hl (by decide) rfl (fun ls hl => ?_)
          refine lv_aload_n hx hb dX4_stepsTo_50 rfl (lv_at hl 2 rfl) ?_
          obtain ⟨hP, hD⟩ := kp_sub (ws' := [(h, .inr (4, [.ref sa, .ref pa, .int (nI p), .ref er, .ref na, .long (e 5), .long (e 6), .long (e 7), .long hs])), (sa, .inl (cI, 71, .inl s)), (na, .inl (cJ, 5, .inr (.inl e))), (pa, .inl (cI, 284, .inl past)), (er, .inl (cI, 3, .inl err))]) hP hD [0, 1, 4, 2, 3] (by decide) rfl
          refine kc_v (wc := [(h, .inr (4, [.ref sa, .ref pa, .int (nI p), .ref er, .ref na, .long (e 5), .long (e 6), .long (e 7), .long hs])), (sa, .inl (cI, 71, .inl s)), (na, .inl (cJ, 5, .inr (.inl e)))]) (wr := [(pa, .inl (cI, 284, .inl past)), (er, .inl (cI, 3, .inl err))]) (va_runV (As := []) (rest := []) ⟨hx, hb, hml, hown, hts⟩ (k_X4_take l D cI cM cJ _ h sa pa er na (nI p) (e 5) (e 6) (e 7) hs s e) (cwV 0 hts gX4_stepsTo_X4_take rfl rfl rfl (by decide +kernel) ⟨Nat.le_of_ble_eq_true rfl, Nat.le_of_ble_eq_true rfl⟩) (kp_preV (q := (RX4, TX4, 9)) (wc := [(h, .inr (4, [.ref sa, .ref pa, .int (nI p), .ref er, .ref na, .long (e 5), .long (e 6), .long (e 7), .long hs])), (sa, .inl (cI, 71, .inl s)), (na, .inl (cJ, 5, .inr (.inl e)))]) (wr := [(pa, .inl (cI, 284, .inl past)), (er, .inl (cI, 3, .inl err))]) hN hK hP hD 0 rfl rfl) rfl rfl hl.1 rfl (lv_room (Nat.le_of_ble_eq_true rfl)) dX4_stepsTo_51 ⟨Nat.le_of_ble_eq_true rfl, Nat.le_of_ble_eq_true rfl⟩) hP hD hS hA (fun u_5 H locs p_5 hP hD hS => ?_)
          obtain ⟨hP, hD⟩ := kp_sub (ws' := [(h, .inr (4, [.ref sa, .ref pa, .int (nI p), .ref er, .ref na, .long (e 5), .long (e 6), .long (e 7), .long hs])), (sa, .inl (cI, 71, .inl s)), (pa, .inl (cI, 284, .inl past)), (er, .inl (cI, 3, .inl err)), (na, .inl (cJ, 5, .inr (.inl (tk_s5 s e))))]) (ws := [(h, .inr (4, [.ref sa, .ref pa, .int (nI p), .ref er, .ref na, .long (e 5), .long (e 6), .long (e 7), .long hs])), (sa, .inl (cI, 71, .inl s)), (na, .inl (cJ, 5, .inr (.inl (tk_s5 s e)))), (pa, .inl (cI, 284, .inl past)), (er, .inl (cI, 3, .inl err))]) hP hD [0, 1, 3, 4, 2] (by decide) rfl
          have hP : va_P D vwCl ([(h, .inr (4, [.ref sa, .ref pa, .int (nI p), .ref er, .ref na, .long (e 5), .long (e 6), .long (e 7), .long hs])), (sa, .inl (cI, 71, .inl s)), (pa, .inl (cI, 284, .inl past)), (er, .inl (cI, 3, .inl err)), (na, .inl (cJ, 5, .inr (.inl (tk_s5 s e))))]) H := hP
          have hD : va_D A ([(h, .inr (4, [.ref sa, .ref pa, .int (nI p), .ref er, .ref na, .long (e 5), .long (e 6), .long (e 7), .long hs])), (sa, .inl (cI, 71, .inl s)), (pa, .inl (cI, 284, .inl past)), (er, .inl (cI, 3, .inl err)), (na, .inl (cJ, 5, .inr (.inl (tk_s5 s e))))]) := hD
          refine lv_iconst (v := 0) hx hb dX4_stepsTo_54 (by decide) ?_
          refine lv_istore (lv' := [(4, .int 0), (3, .int 0), (2, .int 0), (0, .ref h), (1, .int y)]) hx hb dX4_stepsTo_55 hl (by decide) rfl (fun ls hl => ?_)
          refine lv_iload_n hx hb dX4_stepsTo_57 rfl (lv_at hl 2 rfl) ?_
          refine lv_if_eq (tgt := 73) hx hb dX4_stepsTo_58 (by decide) (fun c_6 => ?_) (fun c_6 => ?_)
          · skip
            refine lv_iload_n hx hb dX4_stepsTo_73 rfl (lv_at hl 1 rfl) ?_
            refine lv_if_eq (tgt := 120) hx hb dX4_stepsTo_74 (by decide) (fun c_7 => ?_) (fun c_7 => ?_)
            · skip
              refine lv_iload hx hb dX4_stepsTo_120 (lv_at hl 0 rfl) ?_
              have hyf : yf_stepsTo (p, s, past, err) (tk_s5 s e) y = (0, (p, s, past, err)) := by rw [yf_stepsTo, if_pos p_1, decide_eq_false (p := (tk_s5 s e) 0 < y.toInt64) (fun z => absurd c_3 (tk_nl2.mpr (tk_w_lt.mp z))), st_go_r (st_rch_dt (tk_w_le.mpr c_4)) (by omega)]; rfl --]
              exact W.iret (v := 0) hx hb hr (fun zt ht hW => ⟨⟨0, ((p, s, past, err), (tk_s5 s e), hs), rfl, ⟨by rw [hyf], by rw [hyf]⟩, KB.of hAe (by rw [ht]; exact hP) hD⟩, hS.F ht⟩) hS.2.2 dX4_stepsTo_122
            · exact absurd c_7 (by decide)
          · exact absurd c_6 (by decide)
        · skip
          refine lv_iconst (v := 1) hx hb dX4_stepsTo_44 (by decide) ?_
          refine lv_goto (tgt := 49) hx hb dX4_stepsTo_45 (by decide) ?_
          refine lv_istore_n (lv' := [(3, .int 1), (2, .int 0), (0, .ref h), (1, .int y)]) hx hb dX4_stepsTo_49 rfl hl (by decide) rfl (fun ls hl => ?_)
          refine lv_aload_n hx hb dX4_stepsTo_50 rfl (lv_at hl 2 rfl) ?_
          obtain ⟨hP, hD⟩ := kp_sub (ws' := [(h, .inr (4, [.ref sa, .ref pa, .int (nI p), .ref er, .ref na, .long (e 5), .long (e 6), .long (e 7), .long hs])), (sa, .inl (cI, 71, .inl s)), (na, .inl (cJ, 5, .inr (.inl e))), (pa, .inl (cI, 284, .inl past)), (er, .inl (cI, 3, .inl err))]) hP hD [0, 1, 4, 2, 3] (by decide) rfl
          refine kc_v (wc := [(h, .inr (4, [.ref sa, .ref pa, .int (nI p), .ref er, .ref na, .long (e 5), .long (e 6), .long (e 7), .long hs])), (sa, .inl (cI, 71, .inl s)), (na, .inl (cJ, 5, .inr (.inl e)))]) (wr := [(pa, .inl (cI, 284, .inl past)), (er, .inl (cI, 3, .inl err))]) (va_runV (As := []) (rest := []) ⟨hx, hb, hml, hown, hts⟩ (k_X4_take l D cI cM cJ _ h sa pa er na (nI p) (e 5) (e 6) (e 7) hs s e) (cwV 0 hts gX4_stepsTo_X4_take rfl rfl rfl (by decide +kernel) ⟨Nat.le_of_ble_eq_true rfl, Nat.le_of_ble_eq_true rfl⟩) (kp_preV (q := (RX4, TX4, 9)) (wc := [(h, .inr (4, [.ref sa, .ref pa, .int (nI p), .ref er, .ref na, .long (e 5), .long (e 6), .long (e 7), .long hs])), (sa, .inl (cI, 71, .inl s)), (na, .inl (cJ, 5, .inr (.inl e)))]) (wr := [(pa, .inl (cI, 284, .inl past)), (er, .inl (cI, 3, .inl err))]) hN hK hP hD 0 rfl rfl) rfl rfl hl.1 rfl (lv_room (Nat.le_of_ble_eq_true rfl)) dX4_stepsTo_51 ⟨Nat.le_of_ble_eq_true rfl, Nat.le_of_ble_eq_true rfl⟩) hP hD hS hA (fun u_8 H locs p_8 hP hD hS => ?_)
          obtain ⟨hP, hD⟩ := kp_sub (ws' := [(h, .inr (4, [.ref sa, .ref pa, .int (nI p), .ref er, .ref na, .long (e 5), .long (e 6), .long (e 7), .long hs])), (sa, .inl (cI, 71, .inl s)), (pa, .inl (cI, 284, .inl past)), (er, .inl (cI, 3, .inl err)), (na, .inl (cJ, 5, .inr (.inl (tk_s5 s e))))]) (ws := [(h, .inr (4, [.ref sa, .ref pa, .int (nI p), .ref er, .ref na, .long (e 5), .long (e 6), .long (e 7), .long hs])), (sa, .inl (cI, 71, .inl s)), (na, .inl (cJ, 5, .inr (.inl (tk_s5 s e)))), (pa, .inl (cI, 284, .inl past)), (er, .inl (cI, 3, .inl err))]) hP hD [0, 1, 3, 4, 2] (by decide) rfl
          have hP : va_P D vwCl ([(h, .inr (4, [.ref sa, .ref pa, .int (nI p), .ref er, .ref na, .long (e 5), .long (e 6), .long (e 7), .long hs])), (sa, .inl (cI, 71, .inl s)), (pa, .inl (cI, 284, .inl past)), (er, .inl (cI, 3, .inl err)), (na, .inl (cJ, 5, .inr (.inl (tk_s5 s e))))]) H := hP
          have hD : va_D A ([(h, .inr (4, [.ref sa, .ref pa, .int (nI p), .ref er, .ref na, .long (e 5), .long (e 6), .long (e 7), .long hs])), (sa, .inl (cI, 71, .inl s)), (pa, .inl (cI, 284, .inl past)), (er, .inl (cI, 3, .inl err)), (na, .inl (cJ, 5, .inr (.inl (tk_s5 s e))))]) := hD
          refine lv_iconst (v := 0) hx hb dX4_stepsTo_54 (by decide) ?_
          refine lv_istore (lv' := [(4, .int 0), (3, .int 1), (2, .int 0), (0, .ref h), (1, .int y)]) hx hb dX4_stepsTo_55 hl (by decide) rfl (fun ls hl => ?_)
          refine kl_loop (fun (k : Nat) (H : Heap) (locs : List Loc) (ls : Array Slot) => ∃ (i : Nat) (E : Nat → Int64), (k + i = 101) ∧ (i ≤ 100) ∧ (st_go (s 5).toInt64 (s 6).toInt64 false y.toInt64 k i E = st_go (s 5).toInt64 (s 6).toInt64 false y.toInt64 101 0 (tk_s5 s e)) ∧ (tk_jv E) ∧ va_P D vwCl ([(h, .inr (4, [.ref sa, .ref pa, .int (nI p), .ref er, .ref na, .long (e 5), .long (e 6), .long (e 7), .long hs])), (sa, .inl (cI, 71, .inl s)), (pa, .inl (cI, 284, .inl past)), (er, .inl (cI, 3, .inl err)), (na, .inl (cJ, 5, .inr (.inl E)))]) H ∧ va_D A ([(h, .inr (4, [.ref sa, .ref pa, .int (nI p), .ref er, .ref na, .long (e 5), .long (e 6), .long (e 7), .long hs])), (sa, .inl (cI, 71, .inl s)), (pa, .inl (cI, 284, .inl past)), (er, .inl (cI, 3, .inl err)), (na, .inl (cJ, 5, .inr (.inl E)))]) ∧ va_S A zs.heap H locs ∧ lv_has ls 5 [(4, .int (nI i)), (0, .ref h), (1, .int y), (2, .int 0), (3, .int 1)]) (101) ⟨0, tk_s5 s e, by omega, by omega, rfl, hj, hP, hD, hS, lv_sub hl [0, 3, 4, 2, 1] rfl⟩ ?_
          rintro k H locs ls ⟨i, E, hk, hi, hE, hI, hP, hD, hS, hl⟩ ih
          refine lv_iload_n hx hb dX4_stepsTo_57 rfl (lv_at hl 3 rfl) ?_
          refine lv_if_eq (tgt := 73) hx hb dX4_stepsTo_58 (by decide) (fun c_9 => ?_) (fun c_9 => ?_)
          · skip
            refine lv_iload_n hx hb dX4_stepsTo_73 rfl (lv_at hl 4 rfl) ?_
            refine lv_if_eq (tgt := 120) hx hb dX4_stepsTo_74 (by decide) (fun c_10 => ?_) (fun c_10 => ?_)
            · exact absurd c_10 (by decide)
            · skip
              refine lv_aload_n hx hb dX4_stepsTo_77 rfl (lv_at hl 1 rfl) ?_
              refine va_get (D := D) (ci := 4) (v := .ref na) (C := RX4) (T := TX4) (N := 9) hx hb hts izX4_stepsTo_4 hown hK hP 0 rfl rfl 4 (by decide) (hm 5 (.fieldLink RX4 19 "TankFilterModel" "now" "[J") rfl) (fun _ h9 => h9) rfl dX4_stepsTo_78 ?_
              refine lv_iconst (v := 0) hx hb dX4_stepsTo_81 (by decide) ?_
              refine ka_lld (D := D) (j := 0) (n := 5) (f := E) hx hb hK hP 4 2 rfl rfl (rfl) (by decide) (by decide) dX4_stepsTo_82 ?_
              refine lv_iload_n hx hb dX4_stepsTo_83 rfl (lv_at hl 2 rfl) ?_
              refine lv_i2l hx hb dX4_stepsTo_84 rfl ?_
              refine W.lcmp hx hb dX4_stepsTo_85 ?_
              refine lv_if_le (tgt := 120) hx hb dX4_stepsTo_86 (by decide) (fun c_11 => ?_) (fun c_11 => ?_)
              · have c_11 := (lg_cmp_le _ _).mp c_11
                refine lv_iload hx hb dX4_stepsTo_120 (lv_at hl 0 rfl) ?_
                obtain ⟨hP, hD⟩ := kp_arrJ hP hD 4 rfl (tk_yk E (e 5) (e 6) (e 7)) (tk_five rfl rfl rfl rfl rfl)
                have hP : va_P D vwCl ([(h, .inr (4, [.ref sa, .ref pa, .int (nI p), .ref er, .ref na, .long (e 5), .long (e 6), .long (e 7), .long hs])), (sa, .inl (cI, 71, .inl s)), (pa, .inl (cI, 284, .inl past)), (er, .inl (cI, 3, .inl err)), (na, .inl (cJ, 5, .inr (.inl (tk_yk E (e 5) (e 6) (e 7)))))]) H := hP
                have hD : va_D A ([(h, .inr (4, [.ref sa, .ref pa, .int (nI p), .ref er, .ref na, .long (e 5), .long (e 6), .long (e 7), .long hs])), (sa, .inl (cI, 71, .inl s)), (pa, .inl (cI, 284, .inl past)), (er, .inl (cI, 3, .inl err)), (na, .inl (cJ, 5, .inr (.inl (tk_yk E (e 5) (e 6) (e 7)))))]) := hD
                have hyf : yf_stepsTo (p, s, past, err) (tk_s5 s e) y = (nI i, (p, s, past, err)) := by rw [yf_stepsTo, if_pos p_1, decide_eq_false (p := (tk_s5 s e) 0 < y.toInt64) (fun z => absurd c_3 (tk_nl2.mpr (tk_w_lt.mp z))), ← hE, st_go_r (st_rch_dt c_11) (by omega)]
                exact W.iret (v := nI i) hx hb hr (fun zt ht hW => ⟨⟨nI i, ((p, s, past, err), (tk_yk E (e 5) (e 6) (e 7)), hs), rfl, ⟨by rw [hyf], by rw [hyf]⟩, KB.of hAe (by rw [ht]; exact hP) hD⟩, hS.F ht⟩) hS.2.2 dX4_stepsTo_122
              · have c_11 := mt (lg_cmp_le _ _).mpr c_11
                refine lv_iload hx hb dX4_stepsTo_89 (lv_at hl 0 rfl) ?_
                refine lv_bipush (v := 100) hx hb dX4_stepsTo_91 (by decide) ?_
                refine lv_icmp_eq (tgt := 111) hx hb dX4_stepsTo_93 (by decide) (fun c_12 => ?_) (fun c_12 => ?_)
                · have c_12 := (nI_eq (a := i) (b := 100) (by omega) (by omega)).mp c_12
                  refine lv_ldc (v := -2000000001) hx hb hown (hm 6 (.constant RX4 27 (-2000000001)) rfl) dX4_stepsTo_111 ?_
                  obtain ⟨hP, hD⟩ := kp_arrJ hP hD 4 rfl (tk_yk E (e 5) (e 6) (e 7)) (tk_five rfl rfl rfl rfl rfl)
                  have hP : va_P D vwCl ([(h, .inr (4, [.ref sa, .ref pa, .int (nI p), .ref er, .ref na, .long (e 5), .long (e 6), .long (e 7), .long hs])), (sa, .inl (cI, 71, .inl s)), (pa, .inl (cI, 284, .inl past)), (er, .inl (cI, 3, .inl err)), (na, .inl (cJ, 5, .inr (.inl (tk_yk E (e 5) (e 6) (e 7)))))]) H := hP
                  have hD : va_D A ([(h, .inr (4, [.ref sa, .ref pa, .int (nI p), .ref er, .ref na, .long (e 5), .long (e 6), .long (e 7), .long hs])), (sa, .inl (cI, 71, .inl s)), (pa, .inl (cI, 284, .inl past)), (er, .inl (cI, 3, .inl err)), (na, .inl (cJ, 5, .inr (.inl (tk_yk E (e 5) (e 6) (e 7)))))]) := hD
                  have hyf : yf_stepsTo (p, s, past, err) (tk_s5 s e) y = ((-2000000001), (p, s, past, err)) := by rw [yf_stepsTo, if_pos p_1, decide_eq_false (p := (tk_s5 s e) 0 < y.toInt64) (fun z => absurd c_3 (tk_nl2.mpr (tk_w_lt.mp z))), ← hE, show k = 1 from by omega, st_go_1 (st_rch_df (Int64.not_le.mp c_11))]
                  exact W.iret (v := (-2000000001)) hx hb hr (fun zt ht hW => ⟨⟨(-2000000001), ((p, s, past, err), (tk_yk E (e 5) (e 6) (e 7)), hs), rfl, ⟨by rw [hyf], by rw [hyf]⟩, KB.of hAe (by rw [ht]; exact hP) hD⟩, hS.F ht⟩) hS.2.2 dX4_stepsTo_113
                · have c_12 := mt (nI_eq (a := i) (b := 100) (by omega) (by omega)).mpr c_12
                  refine lv_aload_n hx hb dX4_stepsTo_96 rfl (lv_at hl 1 rfl) ?_
                  refine lv_iconst (v := 0) hx hb dX4_stepsTo_97 (by decide) ?_
                  refine lv_aload_n hx hb dX4_stepsTo_98 rfl (lv_at hl 1 rfl) ?_
                  refine va_get (D := D) (ci := 4) (v := .ref sa) (C := RX4) (T := TX4) (N := 9) hx hb hts izX4_stepsTo_4 hown hK hP 0 rfl rfl 0 (by decide) (hm 4 (.fieldLink RX4 7 "TankFilterModel" "s" "[I") rfl) (fun _ h9 => h9) rfl dX4_stepsTo_99 ?_
                  refine lv_bipush (v := 6) hx hb dX4_stepsTo_102 (by decide) ?_
                  refine ka_ild (D := D) (j := 6) (n := 71) (f := s) hx hb hK hP 1 0 rfl rfl (rfl) (by decide) (by decide) dX4_stepsTo_104 ?_
                  obtain ⟨hP, hD⟩ := kp_sub (ws' := [(h, .inr (4, [.ref sa, .ref pa, .int (nI p), .ref er, .ref na, .long (e 5), .long (e 6), .long (e 7), .long hs])), (sa, .inl (cI, 71, .inl s)), (na, .inl (cJ, 5, .inr (.inl E))), (pa, .inl (cI, 284, .inl past)), (er, .inl (cI, 3, .inl err))]) hP hD [0, 1, 4, 2, 3] (by decide) rfl
                  refine kc_i (wc := [(h, .inr (4, [.ref sa, .ref pa, .int (nI p), .ref er, .ref na, .long (e 5), .long (e 6), .long (e 7), .long hs])), (sa, .inl (cI, 71, .inl s)), (na, .inl (cJ, 5, .inr (.inl E)))]) (wr := [(pa, .inl (cI, 284, .inl past)), (er, .inl (cI, 3, .inl err))]) (va_runV (As := [.int 0, .int (s 6)]) (rest := []) ⟨hx, hb, hml, hown, hts⟩ (k_X4_predicts l D cI cM cJ _ h sa pa er na (nI p) (e 5) (e 6) (e 7) hs s E 0 (s 6) (hI.2) (tk_c0 hI.1 hw)) (cwV 2 hts gX4_stepsTo_X4_predicts rfl rfl rfl (by decide +kernel) ⟨Nat.le_of_ble_eq_true rfl, Nat.le_of_ble_eq_true rfl⟩) (kp_preV (q := (RX4, TX4, 9)) (wc := [(h, .inr (4, [.ref sa, .ref pa, .int (nI p), .ref er, .ref na, .long (e 5), .long (e 6), .long (e 7), .long hs])), (sa, .inl (cI, 71, .inl s)), (na, .inl (cJ, 5, .inr (.inl E)))]) (wr := [(pa, .inl (cI, 284, .inl past)), (er, .inl (cI, 3, .inl err))]) hN hK hP hD 0 rfl rfl) rfl rfl hl.1 rfl (lv_room (Nat.le_of_ble_eq_true rfl)) dX4_stepsTo_105 ⟨Nat.le_of_ble_eq_true rfl, Nat.le_of_ble_eq_true rfl⟩) hP hD hS hA (fun r_13 u_13 H locs p_13 hP hD hS => ?_)
                  rcases p_13 with ⟨p_13, rfl, rfl⟩ | ⟨p_13, rfl, rfl⟩
                  · rw [tk_z64] at p_13 hP hD
                    obtain ⟨hP, hD⟩ := kp_sub (ws' := [(h, .inr (4, [.ref sa, .ref pa, .int (nI p), .ref er, .ref na, .long (e 5), .long (e 6), .long (e 7), .long hs])), (sa, .inl (cI, 71, .inl s)), (pa, .inl (cI, 284, .inl past)), (er, .inl (cI, 3, .inl err)), (na, .inl (cJ, 5, .inr (.inl (ad_e E 0 (s 5).toInt64 (s 6).toInt64))))]) (ws := [(h, .inr (4, [.ref sa, .ref pa, .int (nI p), .ref er, .ref na, .long (e 5), .long (e 6), .long (e 7), .long hs])), (sa, .inl (cI, 71, .inl s)), (na, .inl (cJ, 5, .inr (.inl (ad_e E 0 (s 5).toInt64 (s 6).toInt64)))), (pa, .inl (cI, 284, .inl past)), (er, .inl (cI, 3, .inl err))]) hP hD [0, 1, 3, 4, 2] (by decide) rfl
                    have hP : va_P D vwCl ([(h, .inr (4, [.ref sa, .ref pa, .int (nI p), .ref er, .ref na, .long (e 5), .long (e 6), .long (e 7), .long hs])), (sa, .inl (cI, 71, .inl s)), (pa, .inl (cI, 284, .inl past)), (er, .inl (cI, 3, .inl err)), (na, .inl (cJ, 5, .inr (.inl (ad_e E 0 (s 5).toInt64 (s 6).toInt64))))]) H := hP
                    have hD : va_D A ([(h, .inr (4, [.ref sa, .ref pa, .int (nI p), .ref er, .ref na, .long (e 5), .long (e 6), .long (e 7), .long hs])), (sa, .inl (cI, 71, .inl s)), (pa, .inl (cI, 284, .inl past)), (er, .inl (cI, 3, .inl err)), (na, .inl (cJ, 5, .inr (.inl (ad_e E 0 (s 5).toInt64 (s 6).toInt64))))]) := hD
                    refine lv_if_ne (tgt := 114) hx hb dX4_stepsTo_108 (by decide) (fun c_14 => ?_) (fun c_14 => ?_)
                    · skip
                      refine lv_iinc (v := nI (i + 1)) (lv' := [(4, .int (nI (i + 1))), (0, .ref h), (1, .int y), (2, .int 0), (3, .int 1)]) hx hb dX4_stepsTo_114 hl (k := 0) rfl (nI_1 _) (by decide) rfl (fun ls hl => ?_)
                      refine lv_goto (tgt := 57) hx hb dX4_stepsTo_117 (by decide) ?_
                      exact ih (k - 1) _ _ _ (by omega) ⟨i + 1, ad_e E 0 (s 5).toInt64 (s 6).toInt64, by omega, by omega, (st_go_t (st_rch_df (Int64.not_le.mp c_11)) p_13 (by omega)).symm.trans hE, tk_jv_ad p_13, hP, hD, hS, lv_sub hl [0, 1, 2, 3, 4] rfl⟩
                    · exact absurd c_14 (by decide)
                  · rw [tk_z64] at p_13
                    obtain ⟨hP, hD⟩ := kp_sub (ws' := [(h, .inr (4, [.ref sa, .ref pa, .int (nI p), .ref er, .ref na, .long (e 5), .long (e 6), .long (e 7), .long hs])), (sa, .inl (cI, 71, .inl s)), (pa, .inl (cI, 284, .inl past)), (er, .inl (cI, 3, .inl err)), (na, .inl (cJ, 5, .inr (.inl E)))]) (ws := [(h, .inr (4, [.ref sa, .ref pa, .int (nI p), .ref er, .ref na, .long (e 5), .long (e 6), .long (e 7), .long hs])), (sa, .inl (cI, 71, .inl s)), (na, .inl (cJ, 5, .inr (.inl E))), (pa, .inl (cI, 284, .inl past)), (er, .inl (cI, 3, .inl err))]) hP hD [0, 1, 3, 4, 2] (by decide) rfl
                    have hP : va_P D vwCl ([(h, .inr (4, [.ref sa, .ref pa, .int (nI p), .ref er, .ref na, .long (e 5), .long (e 6), .long (e 7), .long hs])), (sa, .inl (cI, 71, .inl s)), (pa, .inl (cI, 284, .inl past)), (er, .inl (cI, 3, .inl err)), (na, .inl (cJ, 5, .inr (.inl E)))]) H := hP
                    have hD : va_D A ([(h, .inr (4, [.ref sa, .ref pa, .int (nI p), .ref er, .ref na, .long (e 5), .long (e 6), .long (e 7), .long hs])), (sa, .inl (cI, 71, .inl s)), (pa, .inl (cI, 284, .inl past)), (er, .inl (cI, 3, .inl err)), (na, .inl (cJ, 5, .inr (.inl E)))]) := hD
                    refine lv_if_ne (tgt := 114) hx hb dX4_stepsTo_108 (by decide) (fun c_15 => ?_) (fun c_15 => ?_)
                    · exact absurd c_15 (by decide)
                    · skip
                      refine lv_ldc (v := -2000000001) hx hb hown (hm 6 (.constant RX4 27 (-2000000001)) rfl) dX4_stepsTo_111 ?_
                      obtain ⟨hP, hD⟩ := kp_arrJ hP hD 4 rfl (tk_yk E (e 5) (e 6) (e 7)) (tk_five rfl rfl rfl rfl rfl)
                      have hP : va_P D vwCl ([(h, .inr (4, [.ref sa, .ref pa, .int (nI p), .ref er, .ref na, .long (e 5), .long (e 6), .long (e 7), .long hs])), (sa, .inl (cI, 71, .inl s)), (pa, .inl (cI, 284, .inl past)), (er, .inl (cI, 3, .inl err)), (na, .inl (cJ, 5, .inr (.inl (tk_yk E (e 5) (e 6) (e 7)))))]) H := hP
                      have hD : va_D A ([(h, .inr (4, [.ref sa, .ref pa, .int (nI p), .ref er, .ref na, .long (e 5), .long (e 6), .long (e 7), .long hs])), (sa, .inl (cI, 71, .inl s)), (pa, .inl (cI, 284, .inl past)), (er, .inl (cI, 3, .inl err)), (na, .inl (cJ, 5, .inr (.inl (tk_yk E (e 5) (e 6) (e 7)))))]) := hD
                      have hyf : yf_stepsTo (p, s, past, err) (tk_s5 s e) y = ((-2000000001), (p, s, past, err)) := by rw [yf_stepsTo, if_pos p_1, decide_eq_false (p := (tk_s5 s e) 0 < y.toInt64) (fun z => absurd c_3 (tk_nl2.mpr (tk_w_lt.mp z))), ← hE, st_go_f (st_rch_df (Int64.not_le.mp c_11)) p_13 (by omega)]
                      exact W.iret (v := (-2000000001)) hx hb hr (fun zt ht hW => ⟨⟨(-2000000001), ((p, s, past, err), (tk_yk E (e 5) (e 6) (e 7)), hs), rfl, ⟨by rw [hyf], by rw [hyf]⟩, KB.of hAe (by rw [ht]; exact hP) hD⟩, hS.F ht⟩) hS.2.2 dX4_stepsTo_113
          · exact absurd c_9 (by decide)
      · skip
        refine lv_iconst (v := 1) hx hb dX4_stepsTo_28 (by decide) ?_
        refine lv_goto (tgt := 33) hx hb dX4_stepsTo_29 (by decide) ?_
        refine lv_istore_n (lv' := [(2, .int 1), (0, .ref h), (1, .int y)]) hx hb dX4_stepsTo_33 rfl hl (by decide) rfl (fun ls hl => ?_)
        refine lv_aload_n hx hb dX4_stepsTo_34 rfl (lv_at hl 1 rfl) ?_
        refine va_get (D := D) (ci := 4) (v := .ref sa) (C := RX4) (T := TX4) (N := 9) hx hb hts izX4_stepsTo_4 hown hK hP 0 rfl rfl 0 (by decide) (hm 4 (.fieldLink RX4 7 "TankFilterModel" "s" "[I") rfl) (fun _ h9 => h9) rfl dX4_stepsTo_35 ?_
        refine lv_iconst (v := 0) hx hb dX4_stepsTo_38 (by decide) ?_
        refine ka_ild (D := D) (j := 0) (n := 71) (f := s) hx hb hK hP 1 0 rfl rfl (rfl) (by decide) (by decide) dX4_stepsTo_39 ?_
        refine lv_iload_n hx hb dX4_stepsTo_40 rfl (lv_at hl 2 rfl) ?_
        refine lv_icmp_le (tgt := 48) hx hb dX4_stepsTo_41 (by decide) (fun c_16 => ?_) (fun c_16 => ?_)
        · skip
          refine lv_iconst (v := 0) hx hb dX4_stepsTo_48 (by decide) ?_
          refine lv_istore_n (lv' := [(3, .int 0), (2, .int 1), (0, .ref h), (1, .int y)]) hx hb dX4_stepsTo_49 rfl hl (by decide) rfl (fun ls hl => ?_)
          refine lv_aload_n hx hb dX4_stepsTo_50 rfl (lv_at hl 2 rfl) ?_
          obtain ⟨hP, hD⟩ := kp_sub (ws' := [(h, .inr (4, [.ref sa, .ref pa, .int (nI p), .ref er, .ref na, .long (e 5), .long (e 6), .long (e 7), .long hs])), (sa, .inl (cI, 71, .inl s)), (na, .inl (cJ, 5, .inr (.inl e))), (pa, .inl (cI, 284, .inl past)), (er, .inl (cI, 3, .inl err))]) hP hD [0, 1, 4, 2, 3] (by decide) rfl
          refine kc_v (wc := [(h, .inr (4, [.ref sa, .ref pa, .int (nI p), .ref er, .ref na, .long (e 5), .long (e 6), .long (e 7), .long hs])), (sa, .inl (cI, 71, .inl s)), (na, .inl (cJ, 5, .inr (.inl e)))]) (wr := [(pa, .inl (cI, 284, .inl past)), (er, .inl (cI, 3, .inl err))]) (va_runV (As := []) (rest := []) ⟨hx, hb, hml, hown, hts⟩ (k_X4_take l D cI cM cJ _ h sa pa er na (nI p) (e 5) (e 6) (e 7) hs s e) (cwV 0 hts gX4_stepsTo_X4_take rfl rfl rfl (by decide +kernel) ⟨Nat.le_of_ble_eq_true rfl, Nat.le_of_ble_eq_true rfl⟩) (kp_preV (q := (RX4, TX4, 9)) (wc := [(h, .inr (4, [.ref sa, .ref pa, .int (nI p), .ref er, .ref na, .long (e 5), .long (e 6), .long (e 7), .long hs])), (sa, .inl (cI, 71, .inl s)), (na, .inl (cJ, 5, .inr (.inl e)))]) (wr := [(pa, .inl (cI, 284, .inl past)), (er, .inl (cI, 3, .inl err))]) hN hK hP hD 0 rfl rfl) rfl rfl hl.1 rfl (lv_room (Nat.le_of_ble_eq_true rfl)) dX4_stepsTo_51 ⟨Nat.le_of_ble_eq_true rfl, Nat.le_of_ble_eq_true rfl⟩) hP hD hS hA (fun u_17 H locs p_17 hP hD hS => ?_)
          obtain ⟨hP, hD⟩ := kp_sub (ws' := [(h, .inr (4, [.ref sa, .ref pa, .int (nI p), .ref er, .ref na, .long (e 5), .long (e 6), .long (e 7), .long hs])), (sa, .inl (cI, 71, .inl s)), (pa, .inl (cI, 284, .inl past)), (er, .inl (cI, 3, .inl err)), (na, .inl (cJ, 5, .inr (.inl (tk_s5 s e))))]) (ws := [(h, .inr (4, [.ref sa, .ref pa, .int (nI p), .ref er, .ref na, .long (e 5), .long (e 6), .long (e 7), .long hs])), (sa, .inl (cI, 71, .inl s)), (na, .inl (cJ, 5, .inr (.inl (tk_s5 s e)))), (pa, .inl (cI, 284, .inl past)), (er, .inl (cI, 3, .inl err))]) hP hD [0, 1, 3, 4, 2] (by decide) rfl
          have hP : va_P D vwCl ([(h, .inr (4, [.ref sa, .ref pa, .int (nI p), .ref er, .ref na, .long (e 5), .long (e 6), .long (e 7), .long hs])), (sa, .inl (cI, 71, .inl s)), (pa, .inl (cI, 284, .inl past)), (er, .inl (cI, 3, .inl err)), (na, .inl (cJ, 5, .inr (.inl (tk_s5 s e))))]) H := hP
          have hD : va_D A ([(h, .inr (4, [.ref sa, .ref pa, .int (nI p), .ref er, .ref na, .long (e 5), .long (e 6), .long (e 7), .long hs])), (sa, .inl (cI, 71, .inl s)), (pa, .inl (cI, 284, .inl past)), (er, .inl (cI, 3, .inl err)), (na, .inl (cJ, 5, .inr (.inl (tk_s5 s e))))]) := hD
          refine lv_iconst (v := 0) hx hb dX4_stepsTo_54 (by decide) ?_
          refine lv_istore (lv' := [(4, .int 0), (3, .int 0), (2, .int 1), (0, .ref h), (1, .int y)]) hx hb dX4_stepsTo_55 hl (by decide) rfl (fun ls hl => ?_)
          refine kl_loop (fun (k : Nat) (H : Heap) (locs : List Loc) (ls : Array Slot) => ∃ (i : Nat) (E : Nat → Int64), (k + i = 101) ∧ (i ≤ 100) ∧ (st_go (s 5).toInt64 (s 6).toInt64 true y.toInt64 k i E = st_go (s 5).toInt64 (s 6).toInt64 true y.toInt64 101 0 (tk_s5 s e)) ∧ (tk_jv E) ∧ va_P D vwCl ([(h, .inr (4, [.ref sa, .ref pa, .int (nI p), .ref er, .ref na, .long (e 5), .long (e 6), .long (e 7), .long hs])), (sa, .inl (cI, 71, .inl s)), (pa, .inl (cI, 284, .inl past)), (er, .inl (cI, 3, .inl err)), (na, .inl (cJ, 5, .inr (.inl E)))]) H ∧ va_D A ([(h, .inr (4, [.ref sa, .ref pa, .int (nI p), .ref er, .ref na, .long (e 5), .long (e 6), .long (e 7), .long hs])), (sa, .inl (cI, 71, .inl s)), (pa, .inl (cI, 284, .inl past)), (er, .inl (cI, 3, .inl err)), (na, .inl (cJ, 5, .inr (.inl E)))]) ∧ va_S A zs.heap H locs ∧ lv_has ls 5 [(4, .int (nI i)), (0, .ref h), (1, .int y), (2, .int 1), (3, .int 0)]) (101) ⟨0, tk_s5 s e, by omega, by omega, rfl, hj, hP, hD, hS, lv_sub hl [0, 3, 4, 2, 1] rfl⟩ ?_
          rintro k H locs ls ⟨i, E, hk, hi, hE, hI, hP, hD, hS, hl⟩ ih
          refine lv_iload_n hx hb dX4_stepsTo_57 rfl (lv_at hl 3 rfl) ?_
          refine lv_if_eq (tgt := 73) hx hb dX4_stepsTo_58 (by decide) (fun c_18 => ?_) (fun c_18 => ?_)
          · exact absurd c_18 (by decide)
          · skip
            refine lv_aload_n hx hb dX4_stepsTo_61 rfl (lv_at hl 1 rfl) ?_
            refine va_get (D := D) (ci := 4) (v := .ref na) (C := RX4) (T := TX4) (N := 9) hx hb hts izX4_stepsTo_4 hown hK hP 0 rfl rfl 4 (by decide) (hm 5 (.fieldLink RX4 19 "TankFilterModel" "now" "[J") rfl) (fun _ h9 => h9) rfl dX4_stepsTo_62 ?_
            refine lv_iconst (v := 0) hx hb dX4_stepsTo_65 (by decide) ?_
            refine ka_lld (D := D) (j := 0) (n := 5) (f := E) hx hb hK hP 4 2 rfl rfl (rfl) (by decide) (by decide) dX4_stepsTo_66 ?_
            refine lv_iload_n hx hb dX4_stepsTo_67 rfl (lv_at hl 2 rfl) ?_
            refine lv_i2l hx hb dX4_stepsTo_68 rfl ?_
            refine W.lcmp hx hb dX4_stepsTo_69 ?_
            refine lv_if_lt (tgt := 89) hx hb dX4_stepsTo_70 (by decide) (fun c_19 => ?_) (fun c_19 => ?_)
            · have c_19 := (lg_cmp_lt _ _).mp c_19
              refine lv_iload hx hb dX4_stepsTo_89 (lv_at hl 0 rfl) ?_
              refine lv_bipush (v := 100) hx hb dX4_stepsTo_91 (by decide) ?_
              refine lv_icmp_eq (tgt := 111) hx hb dX4_stepsTo_93 (by decide) (fun c_20 => ?_) (fun c_20 => ?_)
              · have c_20 := (nI_eq (a := i) (b := 100) (by omega) (by omega)).mp c_20
                refine lv_ldc (v := -2000000001) hx hb hown (hm 6 (.constant RX4 27 (-2000000001)) rfl) dX4_stepsTo_111 ?_
                obtain ⟨hP, hD⟩ := kp_arrJ hP hD 4 rfl (tk_yk E (e 5) (e 6) (e 7)) (tk_five rfl rfl rfl rfl rfl)
                have hP : va_P D vwCl ([(h, .inr (4, [.ref sa, .ref pa, .int (nI p), .ref er, .ref na, .long (e 5), .long (e 6), .long (e 7), .long hs])), (sa, .inl (cI, 71, .inl s)), (pa, .inl (cI, 284, .inl past)), (er, .inl (cI, 3, .inl err)), (na, .inl (cJ, 5, .inr (.inl (tk_yk E (e 5) (e 6) (e 7)))))]) H := hP
                have hD : va_D A ([(h, .inr (4, [.ref sa, .ref pa, .int (nI p), .ref er, .ref na, .long (e 5), .long (e 6), .long (e 7), .long hs])), (sa, .inl (cI, 71, .inl s)), (pa, .inl (cI, 284, .inl past)), (er, .inl (cI, 3, .inl err)), (na, .inl (cJ, 5, .inr (.inl (tk_yk E (e 5) (e 6) (e 7)))))]) := hD
                have hyf : yf_stepsTo (p, s, past, err) (tk_s5 s e) y = ((-2000000001), (p, s, past, err)) := by rw [yf_stepsTo, if_pos p_1, decide_eq_true (p := (tk_s5 s e) 0 < y.toInt64) (tk_w_lt.mpr (tk_nl2.mp c_3)), ← hE, show k = 1 from by omega, st_go_1 (st_rch_uf c_19)]
                exact W.iret (v := (-2000000001)) hx hb hr (fun zt ht hW => ⟨⟨(-2000000001), ((p, s, past, err), (tk_yk E (e 5) (e 6) (e 7)), hs), rfl, ⟨by rw [hyf], by rw [hyf]⟩, KB.of hAe (by rw [ht]; exact hP) hD⟩, hS.F ht⟩) hS.2.2 dX4_stepsTo_113
              · have c_20 := mt (nI_eq (a := i) (b := 100) (by omega) (by omega)).mpr c_20
                refine lv_aload_n hx hb dX4_stepsTo_96 rfl (lv_at hl 1 rfl) ?_
                refine lv_iconst (v := 0) hx hb dX4_stepsTo_97 (by decide) ?_
                refine lv_aload_n hx hb dX4_stepsTo_98 rfl (lv_at hl 1 rfl) ?_
                refine va_get (D := D) (ci := 4) (v := .ref sa) (C := RX4) (T := TX4) (N := 9) hx hb hts izX4_stepsTo_4 hown hK hP 0 rfl rfl 0 (by decide) (hm 4 (.fieldLink RX4 7 "TankFilterModel" "s" "[I") rfl) (fun _ h9 => h9) rfl dX4_stepsTo_99 ?_
                refine lv_bipush (v := 6) hx hb dX4_stepsTo_102 (by decide) ?_
                refine ka_ild (D := D) (j := 6) (n := 71) (f := s) hx hb hK hP 1 0 rfl rfl (rfl) (by decide) (by decide) dX4_stepsTo_104 ?_
                obtain ⟨hP, hD⟩ := kp_sub (ws' := [(h, .inr (4, [.ref sa, .ref pa, .int (nI p), .ref er, .ref na, .long (e 5), .long (e 6), .long (e 7), .long hs])), (sa, .inl (cI, 71, .inl s)), (na, .inl (cJ, 5, .inr (.inl E))), (pa, .inl (cI, 284, .inl past)), (er, .inl (cI, 3, .inl err))]) hP hD [0, 1, 4, 2, 3] (by decide) rfl
                refine kc_i (wc := [(h, .inr (4, [.ref sa, .ref pa, .int (nI p), .ref er, .ref na, .long (e 5), .long (e 6), .long (e 7), .long hs])), (sa, .inl (cI, 71, .inl s)), (na, .inl (cJ, 5, .inr (.inl E)))]) (wr := [(pa, .inl (cI, 284, .inl past)), (er, .inl (cI, 3, .inl err))]) (va_runV (As := [.int 0, .int (s 6)]) (rest := []) ⟨hx, hb, hml, hown, hts⟩ (k_X4_predicts l D cI cM cJ _ h sa pa er na (nI p) (e 5) (e 6) (e 7) hs s E 0 (s 6) (hI.2) (tk_c0 hI.1 hw)) (cwV 2 hts gX4_stepsTo_X4_predicts rfl rfl rfl (by decide +kernel) ⟨Nat.le_of_ble_eq_true rfl, Nat.le_of_ble_eq_true rfl⟩) (kp_preV (q := (RX4, TX4, 9)) (wc := [(h, .inr (4, [.ref sa, .ref pa, .int (nI p), .ref er, .ref na, .long (e 5), .long (e 6), .long (e 7), .long hs])), (sa, .inl (cI, 71, .inl s)), (na, .inl (cJ, 5, .inr (.inl E)))]) (wr := [(pa, .inl (cI, 284, .inl past)), (er, .inl (cI, 3, .inl err))]) hN hK hP hD 0 rfl rfl) rfl rfl hl.1 rfl (lv_room (Nat.le_of_ble_eq_true rfl)) dX4_stepsTo_105 ⟨Nat.le_of_ble_eq_true rfl, Nat.le_of_ble_eq_true rfl⟩) hP hD hS hA (fun r_21 u_21 H locs p_21 hP hD hS => ?_)
                rcases p_21 with ⟨p_21, rfl, rfl⟩ | ⟨p_21, rfl, rfl⟩
                · rw [tk_z64] at p_21 hP hD
                  obtain ⟨hP, hD⟩ := kp_sub (ws' := [(h, .inr (4, [.ref sa, .ref pa, .int (nI p), .ref er, .ref na, .long (e 5), .long (e 6), .long (e 7), .long hs])), (sa, .inl (cI, 71, .inl s)), (pa, .inl (cI, 284, .inl past)), (er, .inl (cI, 3, .inl err)), (na, .inl (cJ, 5, .inr (.inl (ad_e E 0 (s 5).toInt64 (s 6).toInt64))))]) (ws := [(h, .inr (4, [.ref sa, .ref pa, .int (nI p), .ref er, .ref na, .long (e 5), .long (e 6), .long (e 7), .long hs])), (sa, .inl (cI, 71, .inl s)), (na, .inl (cJ, 5, .inr (.inl (ad_e E 0 (s 5).toInt64 (s 6).toInt64)))), (pa, .inl (cI, 284, .inl past)), (er, .inl (cI, 3, .inl err))]) hP hD [0, 1, 3, 4, 2] (by decide) rfl
                  have hP : va_P D vwCl ([(h, .inr (4, [.ref sa, .ref pa, .int (nI p), .ref er, .ref na, .long (e 5), .long (e 6), .long (e 7), .long hs])), (sa, .inl (cI, 71, .inl s)), (pa, .inl (cI, 284, .inl past)), (er, .inl (cI, 3, .inl err)), (na, .inl (cJ, 5, .inr (.inl (ad_e E 0 (s 5).toInt64 (s 6).toInt64))))]) H := hP
                  have hD : va_D A ([(h, .inr (4, [.ref sa, .ref pa, .int (nI p), .ref er, .ref na, .long (e 5), .long (e 6), .long (e 7), .long hs])), (sa, .inl (cI, 71, .inl s)), (pa, .inl (cI, 284, .inl past)), (er, .inl (cI, 3, .inl err)), (na, .inl (cJ, 5, .inr (.inl (ad_e E 0 (s 5).toInt64 (s 6).toInt64))))]) := hD
                  refine lv_if_ne (tgt := 114) hx hb dX4_stepsTo_108 (by decide) (fun c_22 => ?_) (fun c_22 => ?_)
                  · skip
                    refine lv_iinc (v := nI (i + 1)) (lv' := [(4, .int (nI (i + 1))), (0, .ref h), (1, .int y), (2, .int 1), (3, .int 0)]) hx hb dX4_stepsTo_114 hl (k := 0) rfl (nI_1 _) (by decide) rfl (fun ls hl => ?_)
                    refine lv_goto (tgt := 57) hx hb dX4_stepsTo_117 (by decide) ?_
                    exact ih (k - 1) _ _ _ (by omega) ⟨i + 1, ad_e E 0 (s 5).toInt64 (s 6).toInt64, by omega, by omega, (st_go_t (st_rch_uf c_19) p_21 (by omega)).symm.trans hE, tk_jv_ad p_21, hP, hD, hS, lv_sub hl [0, 1, 2, 3, 4] rfl⟩
                  · exact absurd c_22 (by decide)
                · rw [tk_z64] at p_21
                  obtain ⟨hP, hD⟩ := kp_sub (ws' := [(h, .inr (4, [.ref sa, .ref pa, .int (nI p), .ref er, .ref na, .long (e 5), .long (e 6), .long (e 7), .long hs])), (sa, .inl (cI, 71, .inl s)), (pa, .inl (cI, 284, .inl past)), (er, .inl (cI, 3, .inl err)), (na, .inl (cJ, 5, .inr (.inl E)))]) (ws := [(h, .inr (4, [.ref sa, .ref pa, .int (nI p), .ref er, .ref na, .long (e 5), .long (e 6), .long (e 7), .long hs])), (sa, .inl (cI, 71, .inl s)), (na, .inl (cJ, 5, .inr (.inl E))), (pa, .inl (cI, 284, .inl past)), (er, .inl (cI, 3, .inl err))]) hP hD [0, 1, 3, 4, 2] (by decide) rfl
                  have hP : va_P D vwCl ([(h, .inr (4, [.ref sa, .ref pa, .int (nI p), .ref er, .ref na, .long (e 5), .long (e 6), .long (e 7), .long hs])), (sa, .inl (cI, 71, .inl s)), (pa, .inl (cI, 284, .inl past)), (er, .inl (cI, 3, .inl err)), (na, .inl (cJ, 5, .inr (.inl E)))]) H := hP
                  have hD : va_D A ([(h, .inr (4, [.ref sa, .ref pa, .int (nI p), .ref er, .ref na, .long (e 5), .long (e 6), .long (e 7), .long hs])), (sa, .inl (cI, 71, .inl s)), (pa, .inl (cI, 284, .inl past)), (er, .inl (cI, 3, .inl err)), (na, .inl (cJ, 5, .inr (.inl E)))]) := hD
                  refine lv_if_ne (tgt := 114) hx hb dX4_stepsTo_108 (by decide) (fun c_23 => ?_) (fun c_23 => ?_)
                  · exact absurd c_23 (by decide)
                  · skip
                    refine lv_ldc (v := -2000000001) hx hb hown (hm 6 (.constant RX4 27 (-2000000001)) rfl) dX4_stepsTo_111 ?_
                    obtain ⟨hP, hD⟩ := kp_arrJ hP hD 4 rfl (tk_yk E (e 5) (e 6) (e 7)) (tk_five rfl rfl rfl rfl rfl)
                    have hP : va_P D vwCl ([(h, .inr (4, [.ref sa, .ref pa, .int (nI p), .ref er, .ref na, .long (e 5), .long (e 6), .long (e 7), .long hs])), (sa, .inl (cI, 71, .inl s)), (pa, .inl (cI, 284, .inl past)), (er, .inl (cI, 3, .inl err)), (na, .inl (cJ, 5, .inr (.inl (tk_yk E (e 5) (e 6) (e 7)))))]) H := hP
                    have hD : va_D A ([(h, .inr (4, [.ref sa, .ref pa, .int (nI p), .ref er, .ref na, .long (e 5), .long (e 6), .long (e 7), .long hs])), (sa, .inl (cI, 71, .inl s)), (pa, .inl (cI, 284, .inl past)), (er, .inl (cI, 3, .inl err)), (na, .inl (cJ, 5, .inr (.inl (tk_yk E (e 5) (e 6) (e 7)))))]) := hD
                    have hyf : yf_stepsTo (p, s, past, err) (tk_s5 s e) y = ((-2000000001), (p, s, past, err)) := by rw [yf_stepsTo, if_pos p_1, decide_eq_true (p := (tk_s5 s e) 0 < y.toInt64) (tk_w_lt.mpr (tk_nl2.mp c_3)), ← hE, st_go_f (st_rch_uf c_19) p_21 (by omega)]
                    exact W.iret (v := (-2000000001)) hx hb hr (fun zt ht hW => ⟨⟨(-2000000001), ((p, s, past, err), (tk_yk E (e 5) (e 6) (e 7)), hs), rfl, ⟨by rw [hyf], by rw [hyf]⟩, KB.of hAe (by rw [ht]; exact hP) hD⟩, hS.F ht⟩) hS.2.2 dX4_stepsTo_113
            · have c_19 := mt (lg_cmp_lt _ _).mpr c_19
              refine lv_iload_n hx hb dX4_stepsTo_73 rfl (lv_at hl 4 rfl) ?_
              refine lv_if_eq (tgt := 120) hx hb dX4_stepsTo_74 (by decide) (fun c_24 => ?_) (fun c_24 => ?_)
              · skip
                refine lv_iload hx hb dX4_stepsTo_120 (lv_at hl 0 rfl) ?_
                obtain ⟨hP, hD⟩ := kp_arrJ hP hD 4 rfl (tk_yk E (e 5) (e 6) (e 7)) (tk_five rfl rfl rfl rfl rfl)
                have hP : va_P D vwCl ([(h, .inr (4, [.ref sa, .ref pa, .int (nI p), .ref er, .ref na, .long (e 5), .long (e 6), .long (e 7), .long hs])), (sa, .inl (cI, 71, .inl s)), (pa, .inl (cI, 284, .inl past)), (er, .inl (cI, 3, .inl err)), (na, .inl (cJ, 5, .inr (.inl (tk_yk E (e 5) (e 6) (e 7)))))]) H := hP
                have hD : va_D A ([(h, .inr (4, [.ref sa, .ref pa, .int (nI p), .ref er, .ref na, .long (e 5), .long (e 6), .long (e 7), .long hs])), (sa, .inl (cI, 71, .inl s)), (pa, .inl (cI, 284, .inl past)), (er, .inl (cI, 3, .inl err)), (na, .inl (cJ, 5, .inr (.inl (tk_yk E (e 5) (e 6) (e 7)))))]) := hD
                have hyf : yf_stepsTo (p, s, past, err) (tk_s5 s e) y = (nI i, (p, s, past, err)) := by rw [yf_stepsTo, if_pos p_1, decide_eq_true (p := (tk_s5 s e) 0 < y.toInt64) (tk_w_lt.mpr (tk_nl2.mp c_3)), ← hE, st_go_r (st_rch_ut (Int64.not_lt.mp c_19)) (by omega)]
                exact W.iret (v := nI i) hx hb hr (fun zt ht hW => ⟨⟨nI i, ((p, s, past, err), (tk_yk E (e 5) (e 6) (e 7)), hs), rfl, ⟨by rw [hyf], by rw [hyf]⟩, KB.of hAe (by rw [ht]; exact hP) hD⟩, hS.F ht⟩) hS.2.2 dX4_stepsTo_122
              · exact absurd c_24 (by decide)
        · exact absurd (tk_le3 c_3) c_16
    · exact absurd c_2 (by decide)
  · have hP : va_P D vwCl ([(h, .inr (4, [.ref sa, .ref pa, .int (nI p), .ref er, .ref na, .long (e 5), .long (e 6), .long (e 7), .long hs])), (sa, .inl (cI, 71, .inl s)), (pa, .inl (cI, 284, .inl past)), (er, .inl (cI, 3, .inl err)), (na, .inl (cJ, 5, .inr (.inl e)))]) H := hP
    have hD : va_D A ([(h, .inr (4, [.ref sa, .ref pa, .int (nI p), .ref er, .ref na, .long (e 5), .long (e 6), .long (e 7), .long hs])), (sa, .inl (cI, 71, .inl s)), (pa, .inl (cI, 284, .inl past)), (er, .inl (cI, 3, .inl err)), (na, .inl (cJ, 5, .inr (.inl e)))]) := hD
    refine lv_if_ne (tgt := 18) hx hb dX4_stepsTo_8 (by decide) (fun c_25 => ?_) (fun c_25 => ?_)
    · exact absurd c_25 (by decide)
    · skip
      refine lv_aload_n hx hb dX4_stepsTo_11 rfl (lv_at hl 0 rfl) ?_
      refine lv_ldc (v := -2000000002) hx hb hown (hm 3 (.constant RX4 26 (-2000000002)) rfl) dX4_stepsTo_12 ?_
      obtain ⟨hP, hD⟩ := kp_sub (ws' := [(h, .inr (4, [.ref sa, .ref pa, .int (nI p), .ref er, .ref na, .long (e 5), .long (e 6), .long (e 7), .long hs])), (er, .inl (cI, 3, .inl err)), (sa, .inl (cI, 71, .inl s)), (pa, .inl (cI, 284, .inl past)), (na, .inl (cJ, 5, .inr (.inl e)))]) hP hD [0, 3, 1, 2, 4] (by decide) rfl
      refine kc_i (wc := [(h, .inr (4, [.ref sa, .ref pa, .int (nI p), .ref er, .ref na, .long (e 5), .long (e 6), .long (e 7), .long hs])), (er, .inl (cI, 3, .inl err))]) (wr := [(sa, .inl (cI, 71, .inl s)), (pa, .inl (cI, 284, .inl past)), (na, .inl (cJ, 5, .inr (.inl e)))]) (va_runV (As := [.int (-2000000002)]) (rest := []) ⟨hx, hb, hml, hown, hts⟩ (k_X4_fail l D cI cM cJ _ h sa pa er na (nI p) (e 5) (e 6) (e 7) hs err (-2000000002) 0 (by decide) (by decide)) (cwV 1 hts gX4_stepsTo_X4_fail rfl rfl rfl (by decide +kernel) ⟨Nat.le_of_ble_eq_true rfl, Nat.le_of_ble_eq_true rfl⟩) (kp_preV (q := (RX4, TX4, 9)) (wc := [(h, .inr (4, [.ref sa, .ref pa, .int (nI p), .ref er, .ref na, .long (e 5), .long (e 6), .long (e 7), .long hs])), (er, .inl (cI, 3, .inl err))]) (wr := [(sa, .inl (cI, 71, .inl s)), (pa, .inl (cI, 284, .inl past)), (na, .inl (cJ, 5, .inr (.inl e)))]) hN hK hP hD 0 rfl rfl) rfl rfl hl.1 rfl (lv_room (Nat.le_of_ble_eq_true rfl)) dX4_stepsTo_14 ⟨Nat.le_of_ble_eq_true rfl, Nat.le_of_ble_eq_true rfl⟩) hP hD hS hA (fun r_26 u_26 H locs p_26 hP hD hS => ?_)
      obtain rfl : r_26 = (-2000000002) := p_26
      obtain ⟨hP, hD⟩ := kp_sub (ws' := [(h, .inr (4, [.ref sa, .ref pa, .int (nI p), .ref er, .ref na, .long (e 5), .long (e 6), .long (e 7), .long hs])), (sa, .inl (cI, 71, .inl s)), (pa, .inl (cI, 284, .inl past)), (er, .inl (cI, 3, .inl (upd err 0 (err 0 + 1)))), (na, .inl (cJ, 5, .inr (.inl e)))]) (ws := [(h, .inr (4, [.ref sa, .ref pa, .int (nI p), .ref er, .ref na, .long (e 5), .long (e 6), .long (e 7), .long hs])), (er, .inl (cI, 3, .inl (upd err 0 (err 0 + 1)))), (sa, .inl (cI, 71, .inl s)), (pa, .inl (cI, 284, .inl past)), (na, .inl (cJ, 5, .inr (.inl e)))]) hP hD [0, 2, 3, 1, 4] (by decide) rfl
      have hP : va_P D vwCl ([(h, .inr (4, [.ref sa, .ref pa, .int (nI p), .ref er, .ref na, .long (e 5), .long (e 6), .long (e 7), .long hs])), (sa, .inl (cI, 71, .inl s)), (pa, .inl (cI, 284, .inl past)), (er, .inl (cI, 3, .inl (upd err 0 (err 0 + 1)))), (na, .inl (cJ, 5, .inr (.inl e)))]) H := hP
      have hD : va_D A ([(h, .inr (4, [.ref sa, .ref pa, .int (nI p), .ref er, .ref na, .long (e 5), .long (e 6), .long (e 7), .long hs])), (sa, .inl (cI, 71, .inl s)), (pa, .inl (cI, 284, .inl past)), (er, .inl (cI, 3, .inl (upd err 0 (err 0 + 1)))), (na, .inl (cJ, 5, .inr (.inl e)))]) := hD
      have hyf : yf_stepsTo (p, s, past, err) (tk_s5 s e) y = ((-2000000002), tk_yl (p, s, past, err) 0) := by rw [yf_stepsTo, if_neg p_1]
      exact W.iret (v := (-2000000002)) hx hb hr (fun zt ht hW => ⟨⟨(-2000000002), (tk_yl (p, s, past, err) 0, e, hs), rfl, ⟨by rw [hyf], by rw [hyf]⟩, KB.of hAe (by rw [ht]; exact hP) hD⟩, hS.F ht⟩) hS.2.2 dX4_stepsTo_17
