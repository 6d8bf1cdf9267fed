theorem izX4_fail_4 : ∀ w ∈ wsX40, w ∈ wsX4_fail := fun _ h => List.mem_cons_of_mem _ (List.mem_append_right _ h)
set_option maxHeartbeats 4000000 in
set_option maxRecDepth 100000 in
/-- fail -/
theorem k_X4_fail (l : Launch) (D : va_G) (cI cM cJ : ClassId) (sz : Nat) (h sa pa er na : Nat) (z : Int32) (x1 x2 x3 hs : Int64) (err : Nat → Int32) (cd : Int32) (j : Nat) (hj : j < 3) (hc : -2000000002 - cd = nI j) : Met l yX4_fail wsX4_fail ({ frames := 0, cells := 0, slots := 0, locals := 0 }) (va_Pc [.ref h, .int cd] (KP D (tk_T cI cM cJ) ([(h, .inr (4, [.ref sa, .ref pa, .int z, .ref er, .ref na, .long x1, .long x2, .long x3, .long hs])), (er, .inl (cI, 3, .inl err))]) sz)) (va_Qi (fun (r : Int32) (u : Unit) => r = cd) (fun u zt => KB D ([(h, .inr (4, [.ref sa, .ref pa, .int z, .ref er, .ref na, .long x1, .long x2, .long x3, .long hs])), (er, .inl (cI, 3, .inl err))]) ([(h, .inr (4, [.ref sa, .ref pa, .int z, .ref er, .ref na, .long x1, .long x2, .long x3, .long hs])), (er, .inl (cI, 3, .inl (upd err j (err j + 1))))]) sz zt) (va_A ([(h, .inr (4, [.ref sa, .ref pa, .int z, .ref er, .ref na, .long x1, .long x2, .long x3, .long hs])), (er, .inl (cI, 3, .inl err))]) sz)) 0 0 (va_A ([(h, .inr (4, [.ref sa, .ref pa, .int z, .ref er, .ref na, .long x1, .long x2, .long x3, .long hs])), (er, .inl (cI, 3, .inl err))]) sz) := by
  refine Met.ofW (cc := cX4_fail) (maxL := 2) (ret := (some .int)) (by decide) rfl ?_
  intro zp ze zs zm zargs zbelow zmeth zc zs1 B hml hv
  obtain ⟨rfl, hsz, hP, hK, hD0, hN⟩ := hv
  have hx := B.exec
  have hb := B.bytes
  have hr := B.returns
  have hts := atoms_spec (ws := wsX4_fail) B.pre
  have hm : ∀ (i : Nat) (w : Cond), wsX4_fail[i]? = some w → w.before _ zs = true := fun i w h => hts w (List.mem_of_getElem? h)
  have hown : zs.vm.findClass RX4 = some zm.cls := findClass_of_methodNamed B.named
  have hlocks := B.notSynchronized
  subst hsz
  have hD := hD0.self (sz := zs.heap.size)
  generalize hAe : va_A ([(h, .inr (4, [.ref sa, .ref pa, .int z, .ref er, .ref na, .long x1, .long x2, .long x3, .long hs])), (er, .inl (cI, 3, .inl err))]) zs.heap.size = A at hD ⊢
  have hA : ∀ q : Nat, zs.heap.size ≤ q → A q := fun q h => by rw [← hAe]; exact Or.inr h
  have hS : va_S A zs.heap zs.heap [] := va_S.rf
  have hP : va_P D vwCl ([(h, .inr (4, [.ref sa, .ref pa, .int z, .ref er, .ref na, .long x1, .long x2, .long x3, .long hs])), (er, .inl (cI, 3, .inl err))]) zs.heap := hP
  have hl := lv_entry ([.ref h, .int cd]) (n := 2) (Nat.le_of_ble_eq_true rfl)
  rw [lg_entry_eq]
  generalize (lg_sl ([.ref h, .int cd]) ++ List.replicate (2 - (lg_sl ([.ref h, .int cd])).length) Slot.unset).toArray = ls at hl ⊢
  have hl : lv_has ls 2 [(0, .ref h), (1, .int cd)] := hl
  refine lv_aload_n hx hb dX4_fail_0 rfl (lv_at hl 0 rfl) ?_
  refine va_get (D := D) (ci := 4) (v := .ref er) (C := RX4) (T := TX4) (N := 9) hx hb hts izX4_fail_4 hown hK hP 0 rfl rfl 3 (by decide) (hm 1 (.fieldLink RX4 16 "TankFilterModel" "errors" "[I") rfl) (fun _ h9 => h9) rfl dX4_fail_1 ?_
  refine lv_ldc (v := -2000000002) hx hb hown (hm 2 (.constant RX4 26 (-2000000002)) rfl) dX4_fail_4 ?_
  refine lv_iload_n hx hb dX4_fail_6 rfl (lv_at hl 1 rfl) ?_
  refine lv_isub hx hb dX4_fail_7 ?_
  rw [hc]
  refine lv_dup2_11 hx hb dX4_fail_8 rfl rfl ?_
  refine ka_ild (D := D) (j := j) (n := 3) (f := err) hx hb hK hP 1 0 rfl rfl (rfl) (by omega) (by decide) dX4_fail_9 ?_
  refine lv_iconst (v := 1) hx hb dX4_fail_10 (by decide) ?_
  refine lv_iadd hx hb dX4_fail_11 ?_
  refine ka_ist (D := D) (j := j) (n := 3) (f := err) hx hb hK hP hD hS 1 0 rfl rfl (rfl) (by omega) (by decide) dX4_fail_12 (fun H locs hP hD hS => ?_)
  have hP : va_P D vwCl ([(h, .inr (4, [.ref sa, .ref pa, .int z, .ref er, .ref na, .long x1, .long x2, .long x3, .long hs])), (er, .inl (cI, 3, .inl (upd err j ((err j) + 1))))]) H := hP
  have hD : va_D A ([(h, .inr (4, [.ref sa, .ref pa, .int z, .ref er, .ref na, .long x1, .long x2, .long x3, .long hs])), (er, .inl (cI, 3, .inl (upd err j ((err j) + 1))))]) := hD
  refine lv_iload_n hx hb dX4_fail_13 rfl (lv_at hl 1 rfl) ?_
  exact W.iret (v := cd) hx hb hr (fun zt ht hW => ⟨⟨cd, (), rfl, rfl, KB.of hAe (by rw [ht]; exact hP) hD⟩, hS.F ht⟩) hS.2.2 dX4_fail_14

def tk_s5 (s : Nat → Int32) (e : Nat → Int64) : Nat → Int64 := fun k => match k with
  | 0 => (s 0).toInt64
  | 1 => (s 1).toInt64
  | 2 => (s 2).toInt64
  | 3 => (s 3).toInt64
  | 4 => (s 4).toInt64
  | k => e k
def tk_put (s : Nat → Int32) (e : Nat → Int64) : Nat → Int32 := fun k => match k with
  | 0 => (e 0).toInt32
  | 1 => (e 1).toInt32
  | 2 => (e 2).toInt32
  | 3 => (e 3).toInt32
  | 4 => (e 4).toInt32
  | k => s k
theorem tk_five {P : Nat → Prop} (h0 : P 0) (h1 : P 1) (h2 : P 2) (h3 : P 3) (h4 : P 4) : ∀ j, j < 5 → P j := by
  intro j hj
  rcases (show j = 0 ∨ j = 1 ∨ j = 2 ∨ j = 3 ∨ j = 4 by omega) with rfl | rfl | rfl | rfl | rfl
  · exact h0
  · exact h1
  · exact h2
  · exact h3
  · exact h4
theorem tk_put_up (s : Nat → Int32) (e : Nat → Int64) : ∀ j, j < 71 → upd (upd (upd (upd (upd s 0 (e 0).toInt32) 1 (e 1).toInt32) 2 (e 2).toInt32) 3 (e 3).toInt32) 4 (e 4).toInt32 j = tk_put s e j := by
  intro j _
  match j with
  | 0 => rfl
  | 1 => rfl
  | 2 => rfl
  | 3 => rfl
  | 4 => rfl
  | j + 5 => simp [upd, tk_put]

theorem izX4_take_4 : ∀ w ∈ wsX40, w ∈ wsX4_take := fun _ h => List.mem_cons_of_mem _ (List.mem_append_right _ h)
set_option maxHeartbeats 4000000 in
set_option maxRecDepth 100000 in
/-- take -/
theorem k_X4_take (l : Launch) (D : va_G) (cI cM cJ : ClassId) (sz : Nat) (h sa pa er na : Nat) (z : Int32) (x1 x2 x3 hs : Int64) (s : Nat → Int32) (e : Nat → Int64) : Met l yX4_take wsX4_take ({ frames := 0, cells := 0, slots := 0, locals := 0 }) (va_Pc [.ref h] (KP D (tk_T cI cM cJ) ([(h, .inr (4, [.ref sa, .ref pa, .int z, .ref er, .ref na, .long x1, .long x2, .long x3, .long hs])), (sa, .inl (cI, 71, .inl s)), (na, .inl (cJ, 5, .inr (.inl e)))]) sz)) (va_Qv (fun (u : Unit) => True) (fun u zt => KB D ([(h, .inr (4, [.ref sa, .ref pa, .int z, .ref er, .ref na, .long x1, .long x2, .long x3, .long hs])), (sa, .inl (cI, 71, .inl s)), (na, .inl (cJ, 5, .inr (.inl e)))]) ([(h, .inr (4, [.ref sa, .ref pa, .int z, .ref er, .ref na, .long x1, .long x2, .long x3, .long hs])), (sa, .inl (cI, 71, .inl s)), (na, .inl (cJ, 5, .inr (.inl (tk_s5 s e))))]) sz zt) (va_A ([(h, .inr (4, [.ref sa, .ref pa, .int z, .ref er, .ref na, .long x1, .long x2, .long x3, .long hs])), (sa, .inl (cI, 71, .inl s)), (na, .inl (cJ, 5, .inr (.inl e)))]) sz)) 0 0 (va_A ([(h, .inr (4, [.ref sa, .ref pa, .int z, .ref er, .ref na, .long x1, .long x2, .long x3, .long hs])), (sa, .inl (cI, 71, .inl s)), (na, .inl (cJ, 5, .inr (.inl e)))]) sz) := by
  refine Met.ofW (cc := cX4_take) (maxL := 2) (ret := none) (by decide) rfl ?_
  intro zp ze zs zm zargs zbelow zmeth zc zs1 B hml hv
  obtain ⟨rfl, hsz, hP, hK, hD0, hN⟩ := hv
  have hx := B.exec
  have hb := B.bytes
  have hr := B.returns
  have hts := atoms_spec (ws := wsX4_take) B.pre
  have hm : ∀ (i : Nat) (w : Cond), wsX4_take[i]? = some w → w.before _ zs = true := fun i w h => hts w (List.mem_of_getElem? h)
  have hown : zs.vm.findClass RX4 = some zm.cls := findClass_of_methodNamed B.named
  have hlocks := B.notSynchronized
  subst hsz
  have hD := hD0.self (sz := zs.heap.size)
  generalize hAe : va_A ([(h, .inr (4, [.ref sa, .ref pa, .int z, .ref er, .ref na, .long x1, .long x2, .long x3, .long hs])), (sa, .inl (cI, 71, .inl s)), (na, .inl (cJ, 5, .inr (.inl e)))]) zs.heap.size = A at hD ⊢
  have hA : ∀ q : Nat, zs.heap.size ≤ q → A q := fun q h => by rw [← hAe]; exact Or.inr h
  have hS : va_S A zs.heap zs.heap [] := va_S.rf
  have hP : va_P D vwCl ([(h, .inr (4, [.ref sa, .ref pa, .int z, .ref er, .ref na, .long x1, .long x2, .long x3, .long hs])), (sa, .inl (cI, 71, .inl s)), (na, .inl (cJ, 5, .inr (.inl e)))]) zs.heap := hP
  have hl := lv_entry ([.ref h]) (n := 2) (Nat.le_of_ble_eq_true rfl)
  rw [lg_entry_eq]
  generalize (lg_sl ([.ref h]) ++ List.replicate (2 - (lg_sl ([.ref h])).length) Slot.unset).toArray = ls at hl ⊢
  have hl : lv_has ls 2 [(0, .ref h)] := hl
  refine lv_iconst (v := 0) hx hb dX4_take_0 (by decide) ?_
  refine lv_istore_n (lv' := [(1, .int 0), (0, .ref h)]) hx hb dX4_take_1 rfl hl (by decide) rfl (fun ls hl => ?_)
  refine lv_iload_n hx hb dX4_take_2 rfl (lv_at hl 0 rfl) ?_
  refine lv_iconst (v := 5) hx hb dX4_take_3 (by decide) ?_
  refine lv_icmp_ge (tgt := 26) hx hb dX4_take_4 (by decide) (fun c_1 => ?_) (fun c_1 => ?_)
  · exact absurd c_1 (by decide)
  · skip
    refine lv_aload_n hx hb dX4_take_7 rfl (lv_at hl 1 rfl) ?_
    refine va_get (D := D) (ci := 4) (v := .ref na) (C := RX4) (T := TX4) (N := 9) hx hb hts izX4_take_4 hown hK hP 0 rfl rfl 4 (by decide) (hm 1 (.fieldLink RX4 19 "TankFilterModel" "now" "[J") rfl) (fun _ h9 => h9) rfl dX4_take_8 ?_
    refine lv_iload_n hx hb dX4_take_11 rfl (lv_at hl 0 rfl) ?_
    refine lv_aload_n hx hb dX4_take_12 rfl (lv_at hl 1 rfl) ?_
    refine va_get (D := D) (ci := 4) (v := .ref sa) (C := RX4) (T := TX4) (N := 9) hx hb hts izX4_take_4 hown hK hP 0 rfl rfl 0 (by decide) (hm 2 (.fieldLink RX4 7 "TankFilterModel" "s" "[I") rfl) (fun _ h9 => h9) rfl dX4_take_13 ?_
    refine lv_iload_n hx hb dX4_take_16 rfl (lv_at hl 0 rfl) ?_
    refine ka_ild (D := D) (j := 0) (n := 71) (f := s) hx hb hK hP 1 0 rfl rfl (rfl) (by decide) (by decide) dX4_take_17 ?_
    refine lv_i2l hx hb dX4_take_18 rfl ?_
    refine ka_lst (D := D) (j := 0) (n := 5) (f := e) hx hb hK hP hD hS 2 2 rfl rfl (rfl) (by decide) (by decide) dX4_take_19 (fun H locs hP hD hS => ?_)
    have hP : va_P D vwCl ([(h, .inr (4, [.ref sa, .ref pa, .int z, .ref er, .ref na, .long x1, .long x2, .long x3, .long hs])), (sa, .inl (cI, 71, .inl s)), (na, .inl (cJ, 5, .inr (.inl (vp_updL e 0 ((s 0).toInt64)))))]) H := hP
    have hD : va_D A ([(h, .inr (4, [.ref sa, .ref pa, .int z, .ref er, .ref na, .long x1, .long x2, .long x3, .long hs])), (sa, .inl (cI, 71, .inl s)), (na, .inl (cJ, 5, .inr (.inl (vp_updL e 0 ((s 0).toInt64)))))]) := hD
    refine lv_iinc (v := 1) (lv' := [(1, .int 1), (0, .ref h)]) hx hb dX4_take_20 hl (k := 0) rfl (by decide) (by decide) rfl (fun ls hl => ?_)
    refine lv_goto (tgt := 2) hx hb dX4_take_23 (by decide) ?_
    refine lv_iload_n hx hb dX4_take_2 rfl (lv_at hl 0 rfl) ?_
    refine lv_iconst (v := 5) hx hb dX4_take_3 (by decide) ?_
    refine lv_icmp_ge (tgt := 26) hx hb dX4_take_4 (by decide) (fun c_2 => ?_) (fun c_2 => ?_)
    · exact absurd c_2 (by decide)
    · skip
      refine lv_aload_n hx hb dX4_take_7 rfl (lv_at hl 1 rfl) ?_
      refine va_get (D := D) (ci := 4) (v := .ref na) (C := RX4) (T := TX4) (N := 9) hx hb hts izX4_take_4 hown hK hP 0 rfl rfl 4 (by decide) (hm 1 (.fieldLink RX4 19 "TankFilterModel" "now" "[J") rfl) (fun _ h9 => h9) rfl dX4_take_8 ?_
      refine lv_iload_n hx hb dX4_take_11 rfl (lv_at hl 0 rfl) ?_
      refine lv_aload_n hx hb dX4_take_12 rfl (lv_at hl 1 rfl) ?_
      refine va_get (D := D) (ci := 4) (v := .ref sa) (C := RX4) (T := TX4) (N := 9) hx hb hts izX4_take_4 hown hK hP 0 rfl rfl 0 (by decide) (hm 2 (.fieldLink RX4 7 "TankFilterModel" "s" "[I") rfl) (fun _ h9 => h9) rfl dX4_take_13 ?_
      refine lv_iload_n hx hb dX4_take_16 rfl (lv_at hl 0 rfl) ?_
      refine ka_ild (D := D) (j := 1) (n := 71) (f := s) hx hb hK hP 1 0 rfl rfl (rfl) (by decide) (by decide) dX4_take_17 ?_
      refine lv_i2l hx hb dX4_take_18 rfl ?_
      refine ka_lst (D := D) (j := 1) (n := 5) (f := vp_updL e 0 ((s 0).toInt64)) hx hb hK hP hD hS 2 2 rfl rfl (rfl) (by decide) (by decide) dX4_take_19 (fun H locs hP hD hS => ?_)
      have hP : va_P D vwCl ([(h, .inr (4, [.ref sa, .ref pa, .int z, .ref er, .ref na, .long x1, .long x2, .long x3, .long hs])), (sa, .inl (cI, 71, .inl s)), (na, .inl (cJ, 5, .inr (.inl (vp_updL (vp_updL e 0 ((s 0).toInt64)) 1 ((s 1).toInt64)))))]) H := hP
      have hD : va_D A ([(h, .inr (4, [.ref sa, .ref pa, .int z, .ref er, .ref na, .long x1, .long x2, .long x3, .long hs])), (sa, .inl (cI, 71, .inl s)), (na, .inl (cJ, 5, .inr (.inl (vp_updL (vp_updL e 0 ((s 0).toInt64)) 1 ((s 1).toInt64)))))]) := hD
      refine lv_iinc (v := 2) (lv' := [(1, .int 2), (0, .ref h)]) hx hb dX4_take_20 hl (k := 0) rfl (by decide) (by decide) rfl (fun ls hl => ?_)
      refine lv_goto (tgt := 2) hx hb dX4_take_23 (by decide) ?_
      refine lv_iload_n hx hb dX4_take_2 rfl (lv_at hl 0 rfl) ?_
      refine lv_iconst (v := 5) hx hb dX4_take_3 (by decide) ?_
      refine lv_icmp_ge (tgt := 26) hx hb dX4_take_4 (by decide) (fun c_3 => ?_) (fun c_3 => ?_)
      · exact absurd c_3 (by decide)
      · skip
        refine lv_aload_n hx hb dX4_take_7 rfl (lv_at hl 1 rfl) ?_
        refine va_get (D := D) (ci := 4) (v := .ref na) (C := RX4) (T := TX4) (N := 9) hx hb hts izX4_take_4 hown hK hP 0 rfl rfl 4 (by decide) (hm 1 (.fieldLink RX4 19 "TankFilterModel" "now" "[J") rfl) (fun _ h9 => h9) rfl dX4_take_8 ?_
        refine lv_iload_n hx hb dX4_take_11 rfl (lv_at hl 0 rfl) ?_
        refine lv_aload_n hx hb dX4_take_12 rfl (lv_at hl 1 rfl) ?_
        refine va_get (D := D) (ci := 4) (v := .ref sa) (C := RX4) (T := TX4) (N := 9) hx hb hts izX4_take_4 hown hK hP 0 rfl rfl 0 (by decide) (hm 2 (.fieldLink RX4 7 "TankFilterModel" "s" "[I") rfl) (fun _ h9 => h9) rfl dX4_take_13 ?_
        refine lv_iload_n hx hb dX4_take_16 rfl (lv_at hl 0 rfl) ?_
        refine ka_ild (D := D) (j := 2) (n := 71) (f := s) hx hb hK hP 1 0 rfl rfl (rfl) (by decide) (by decide) dX4_take_17 ?_
        refine lv_i2l hx hb dX4_take_18 rfl ?_
        refine ka_lst (D := D) (j := 2) (n := 5) (f := vp_updL (vp_updL e 0 ((s 0).toInt64)) 1 ((s 1).toInt64)) hx hb hK hP hD hS 2 2 rfl rfl (rfl) (by decide) (by decide) dX4_take_19 (fun H locs hP hD hS => ?_)
        have hP : va_P D vwCl ([(h, .inr (4, [.ref sa, .ref pa, .int z, .ref er, .ref na, .long x1, .long x2, .long x3, .long hs])), (sa, .inl (cI, 71, .inl s)), (na, .inl (cJ, 5, .inr (.inl (vp_updL (vp_updL (vp_updL e 0 ((s 0).toInt64)) 1 ((s 1).toInt64)) 2 ((s 2).toInt64)))))]) H := hP
        have hD : va_D A ([(h, .inr (4, [.ref sa, .ref pa, .int z, .ref er, .ref na, .long x1, .long x2, .long x3, .long hs])), (sa, .inl (cI, 71, .inl s)), (na, .inl (cJ, 5, .inr (.inl (vp_updL (vp_updL (vp_updL e 0 ((s 0).toInt64)) 1 ((s 1).toInt64)) 2 ((s 2).toInt64)))))]) := hD
        refine lv_iinc (v := 3) (lv' := [(1, .int 3), (0, .ref h)]) hx hb dX4_take_20 hl (k := 0) rfl (by decide) (by decide) rfl (fun ls hl => ?_)
        refine lv_goto (tgt := 2) hx hb dX4_take_23 (by decide) ?_
        refine lv_iload_n hx hb dX4_take_2 rfl (lv_at hl 0 rfl) ?_
        refine lv_iconst (v := 5) hx hb dX4_take_3 (by decide) ?_
        refine lv_icmp_ge (tgt := 26) hx hb dX4_take_4 (by decide) (fun c_4 => ?_) (fun c_4 => ?_)
        · exact absurd c_4 (by decide)
        · skip
          refine lv_aload_n hx hb dX4_take_7 rfl (lv_at hl 1 rfl) ?_
          refine va_get (D := D) (ci := 4) (v := .ref na) (C := RX4) (T := TX4) (N := 9) hx hb hts izX4_take_4 hown hK hP 0 rfl rfl 4 (by decide) (hm 1 (.fieldLink RX4 19 "TankFilterModel" "now" "[J") rfl) (fun _ h9 => h9) rfl dX4_take_8 ?_
          refine lv_iload_n hx hb dX4_take_11 rfl (lv_at hl 0 rfl) ?_
          refine lv_aload_n hx hb dX4_take_12 rfl (lv_at hl 1 rfl) ?_
          refine va_get (D := D) (ci := 4) (v := .ref sa) (C := RX4) (T := TX4) (N := 9) hx hb hts izX4_take_4 hown hK hP 0 rfl rfl 0 (by decide) (hm 2 (.fieldLink RX4 7 "TankFilterModel" "s" "[I") rfl) (fun _ h9 => h9) rfl dX4_take_13 ?_
          refine lv_iload_n hx hb dX4_take_16 rfl (lv_at hl 0 rfl) ?_
          refine ka_ild (D := D) (j := 3) (n := 71) (f := s) hx hb hK hP 1 0 rfl rfl (rfl) (by decide) (by decide) dX4_take_17 ?_
          refine lv_i2l hx hb dX4_take_18 rfl ?_
          refine ka_lst (D := D) (j := 3) (n := 5) (f := vp_updL (vp_updL (vp_updL e 0 ((s 0).toInt64)) 1 ((s 1).toInt64)) 2 ((s 2).toInt64)) hx hb hK hP hD hS 2 2 rfl rfl (rfl) (by decide) (by decide) dX4_take_19 (fun H locs hP hD hS => ?_)
          have hP : va_P D vwCl ([(h, .inr (4, [.ref sa, .ref pa, .int z, .ref er, .ref na, .long x1, .long x2, .long x3, .long hs])), (sa, .inl (cI, 71, .inl s)), (na, .inl (cJ, 5, .inr (.inl (vp_updL (vp_updL (vp_updL (vp_updL e 0 ((s 0).toInt64)) 1 ((s 1).toInt64)) 2 ((s 2).toInt64)) 3 ((s 3).toInt64)))))]) H := hP
          have hD : va_D A ([(h, .inr (4, [.ref sa, .ref pa, .int z, .ref er, .ref na, .long x1, .long x2, .long x3, .long hs])), (sa, .inl (cI, 71, .inl s)), (na, .inl (cJ, 5, .inr (.inl (vp_updL (vp_updL (vp_updL (vp_updL e 0 ((s 0).toInt64)) 1 ((s 1).toInt64)) 2 ((s 2).toInt64)) 3 ((s 3).toInt64)))))]) := hD
          refine lv_iinc (v := 4) (lv' := [(1, .int 4), (0, .ref h)]) hx hb dX4_take_20 hl (k := 0) rfl (by decide) (by decide) rfl (fun ls hl => ?_)
          refine lv_goto (tgt := 2) hx hb dX4_take_23 (by decide) ?_
          refine lv_iload_n hx hb dX4_take_2 rfl (lv_at hl 0 rfl) ?_
          refine lv_iconst (v := 5) hx hb dX4_take_3 (by decide) ?_
          refine lv_icmp_ge (tgt := 26) hx hb dX4_take_4 (by decide) (fun c_5 => ?_) (fun c_5 => ?_)
          · exact absurd c_5 (by decide)
          · skip
            refine lv_aload_n hx hb dX4_take_7 rfl (lv_at hl 1 rfl) ?_
            refine va_get (D := D) (ci := 4) (v := .ref na) (C := RX4) (T := TX4) (N := 9) hx hb hts izX4_take_4 hown hK hP 0 rfl rfl 4 (by decide) (hm 1 (.fieldLink RX4 19 "TankFilterModel" "now" "[J") rfl) (fun _ h9 => h9) rfl dX4_take_8 ?_
            refine lv_iload_n hx hb dX4_take_11 rfl (lv_at hl 0 rfl) ?_
            refine lv_aload_n hx hb dX4_take_12 rfl (lv_at hl 1 rfl) ?_
            refine va_get (D := D) (ci := 4) (v := .ref sa) (C := RX4) (T := TX4) (N := 9) hx hb hts izX4_take_4 hown hK hP 0 rfl rfl 0 (by decide) (hm 2 (.fieldLink RX4 7 "TankFilterModel" "s" "[I") rfl) (fun _ h9 => h9) rfl dX4_take_13 ?_
            refine lv_iload_n hx hb dX4_take_16 rfl (lv_at hl 0 rfl) ?_
            refine ka_ild (D := D) (j := 4) (n := 71) (f := s) hx hb hK hP 1 0 rfl rfl (rfl) (by decide) (by decide) dX4_take_17 ?_
            refine lv_i2l hx hb dX4_take_18 rfl ?_
            refine ka_lst (D := D) (j := 4) (n := 5) (f := vp_updL (vp_updL (vp_updL (vp_updL e 0 ((s 0).toInt64)) 1 ((s 1).toInt64)) 2 ((s 2).toInt64)) 3 ((s 3).toInt64)) hx hb hK hP hD hS 2 2 rfl rfl (rfl) (by decide) (by decide) dX4_take_19 (fun H locs hP hD hS => ?_)
            have hP : va_P D vwCl ([(h, .inr (4, [.ref sa, .ref pa, .int z, .ref er, .ref na, .long x1, .long x2, .long x3, .long hs])), (sa, .inl (cI, 71, .inl s)), (na, .inl (cJ, 5, .inr (.inl (vp_updL (vp_updL (vp_updL (vp_updL (vp_updL e 0 ((s 0).toInt64)) 1 ((s 1).toInt64)) 2 ((s 2).toInt64)) 3 ((s 3).toInt64)) 4 ((s 4).toInt64)))))]) H := hP
            have hD : va_D A ([(h, .inr (4, [.ref sa, .ref pa, .int z, .ref er, .ref na, .long x1, .long x2, .long x3, .long hs])), (sa, .inl (cI, 71, .inl s)), (na, .inl (cJ, 5, .inr (.inl (vp_updL (vp_updL (vp_updL (vp_updL (vp_updL e 0 ((s 0).toInt64)) 1 ((s 1).toInt64)) 2 ((s 2).toInt64)) 3 ((s 3).toInt64)) 4 ((s 4).toInt64)))))]) := hD
            refine lv_iinc (v := 5) (lv' := [(1, .int 5), (0, .ref h)]) hx hb dX4_take_20 hl (k := 0) rfl (by decide) (by decide) rfl (fun ls hl => ?_)
            refine lv_goto (tgt := 2) hx hb dX4_take_23 (by decide) ?_
            refine lv_iload_n hx hb dX4_take_2 rfl (lv_at hl 0 rfl) ?_
            refine lv_iconst (v := 5) hx hb dX4_take_3 (by decide) ?_
            refine lv_icmp_ge (tgt := 26) hx hb dX4_take_4 (by decide) (fun c_6 => ?_) (fun c_6 => ?_)
            · skip
              obtain ⟨hP, hD⟩ := kp_arrJ hP hD 2 rfl (tk_s5 s e) (tk_five rfl rfl rfl rfl rfl)
              have hP : va_P D vwCl ([(h, .inr (4, [.ref sa, .ref pa, .int z, .ref er, .ref na, .long x1, .long x2, .long x3, .long hs])), (sa, .inl (cI, 71, .inl s)), (na, .inl (cJ, 5, .inr (.inl (tk_s5 s e))))]) H := hP
              have hD : va_D A ([(h, .inr (4, [.ref sa, .ref pa, .int z, .ref er, .ref na, .long x1, .long x2, .long x3, .long hs])), (sa, .inl (cI, 71, .inl s)), (na, .inl (cJ, 5, .inr (.inl (tk_s5 s e))))]) := hD
              exact W.vret hx hb hr (fun zt ht hW => ⟨⟨(), rfl, trivial, KB.of hAe (by rw [ht]; exact hP) hD⟩, hS.F ht⟩) hS.2.2 dX4_take_26
            · exact absurd c_6 (by decide)

theorem izX4_put_4 : ∀ w ∈ wsX40, w ∈ wsX4_put := fun _ h => List.mem_cons_of_mem _ (List.mem_append_right _ h)
set_option maxHeartbeats 4000000 in
set_option maxRecDepth 100000 in
/-- put -/
theorem k_X4_put (l : Launch) (D : va_G) (cI cM cJ : ClassId) (sz : Nat) (h sa pa er na : Nat) (z : Int32) (x1 x2 x3 hs : Int64) (s : Nat → Int32) (e : Nat → Int64) : Met l yX4_put wsX4_put ({ frames := 0, cells := 0, slots := 0, locals := 0 }) (va_Pc [.ref h] (KP D (tk_T cI cM cJ) ([(h, .inr (4, [.ref sa, .ref pa, .int z, .ref er, .ref na, .long x1, .long x2, .long x3, .long hs])), (sa, .inl (cI, 71, .inl s)), (na, .inl (cJ, 5, .inr (.inl e)))]) sz)) (va_Qv (fun (u : Unit) => True) (fun u zt => KB D ([(h, .inr (4, [.ref sa, .ref pa, .int z, .ref er, .ref na, .long x1, .long x2, .long x3, .long hs])), (sa, .inl (cI, 71, .inl s)), (na, .inl (cJ, 5, .inr (.inl e)))]) ([(h, .inr (4, [.ref sa, .ref pa, .int z, .ref er, .ref na, .long x1, .long x2, .long x3, .long hs])), (sa, .inl (cI, 71, .inl (tk_put s e))), (na, .inl (cJ, 5, .inr (.inl e)))]) sz zt) (va_A ([(h, .inr (4, [.ref sa, .ref pa, .int z, .ref er, .ref na, .long x1, .long x2, .long x3, .long hs])), (sa, .inl (cI, 71, .inl s)), (na, .inl (cJ, 5, .inr (.inl e)))]) sz)) 0 0 (va_A ([(h, .inr (4, [.ref sa, .ref pa, .int z, .ref er, .ref na, .long x1, .long x2, .long x3, .long hs])), (sa, .inl (cI, 71, .inl s)), (na, .inl (cJ, 5, .inr (.inl e)))]) sz) := by
  refine Met.ofW (cc := cX4_put) (maxL := 2) (ret := none) (by decide) rfl ?_
  intro zp ze zs zm zargs zbelow zmeth zc zs1 B hml hv
  obtain ⟨rfl, hsz, hP, hK, hD0, hN⟩ := hv
  have hx := B.exec
  have hb := B.bytes
  have hr := B.returns
  have hts := atoms_spec (ws := wsX4_put) B.pre
  have hm : ∀ (i : Nat) (w : Cond), wsX4_put[i]? = some w → w.before _ zs = true := fun i w h => hts w (List.mem_of_getElem? h)
  have hown : zs.vm.findClass RX4 = some zm.cls := findClass_of_methodNamed B.named
  have hlocks := B.notSynchronized
  subst hsz
  have hD := hD0.self (sz := zs.heap.size)
  generalize hAe : va_A ([(h, .inr (4, [.ref sa, .ref pa, .int z, .ref er, .ref na, .long x1, .long x2, .long x3, .long hs])), (sa, .inl (cI, 71, .inl s)), (na, .inl (cJ, 5, .inr (.inl e)))]) zs.heap.size = A at hD ⊢
  have hA : ∀ q : Nat, zs.heap.size ≤ q → A q := fun q h => by rw [← hAe]; exact Or.inr h
  have hS : va_S A zs.heap zs.heap [] := va_S.rf
  have hP : va_P D vwCl ([(h, .inr (4, [.ref sa, .ref pa, .int z, .ref er, .ref na, .long x1, .long x2, .long x3, .long hs])), (sa, .inl (cI, 71, .inl s)), (na, .inl (cJ, 5, .inr (.inl e)))]) zs.heap := hP
  have hl := lv_entry ([.ref h]) (n := 2) (Nat.le_of_ble_eq_true rfl)
  rw [lg_entry_eq]
  generalize (lg_sl ([.ref h]) ++ List.replicate (2 - (lg_sl ([.ref h])).length) Slot.unset).toArray = ls at hl ⊢
  have hl : lv_has ls 2 [(0, .ref h)] := hl
  refine lv_iconst (v := 0) hx hb dX4_put_0 (by decide) ?_
  refine lv_istore_n (lv' := [(1, .int 0), (0, .ref h)]) hx hb dX4_put_1 rfl hl (by decide) rfl (fun ls hl => ?_)
  refine lv_iload_n hx hb dX4_put_2 rfl (lv_at hl 0 rfl) ?_
  refine lv_iconst (v := 5) hx hb dX4_put_3 (by decide) ?_
  refine lv_icmp_ge (tgt := 26) hx hb dX4_put_4 (by decide) (fun c_1 => ?_) (fun c_1 => ?_)
  · exact absurd c_1 (by decide)
  · skip
    refine lv_aload_n hx hb dX4_put_7 rfl (lv_at hl 1 rfl) ?_
    refine va_get (D := D) (ci := 4) (v := .ref sa) (C := RX4) (T := TX4) (N := 9) hx hb hts izX4_put_4 hown hK hP 0 rfl rfl 0 (by decide) (hm 1 (.fieldLink RX4 7 "TankFilterModel" "s" "[I") rfl) (fun _ h9 => h9) rfl dX4_put_8 ?_
    refine lv_iload_n hx hb dX4_put_11 rfl (lv_at hl 0 rfl) ?_
    refine lv_aload_n hx hb dX4_put_12 rfl (lv_at hl 1 rfl) ?_
    refine va_get (D := D) (ci := 4) (v := .ref na) (C := RX4) (T := TX4) (N := 9) hx hb hts izX4_put_4 hown hK hP 0 rfl rfl 4 (by decide) (hm 2 (.fieldLink RX4 19 "TankFilterModel" "now" "[J") rfl) (fun _ h9 => h9) rfl dX4_put_13 ?_
    refine lv_iload_n hx hb dX4_put_16 rfl (lv_at hl 0 rfl) ?_
    refine ka_lld (D := D) (j := 0) (n := 5) (f := e) hx hb hK hP 2 2 rfl rfl (rfl) (by decide) (by decide) dX4_put_17 ?_
    refine lv_l2i hx hb dX4_put_18 rfl ?_
    refine ka_ist (D := D) (j := 0) (n := 71) (f := s) hx hb hK hP hD hS 1 0 rfl rfl (rfl) (by decide) (by decide) dX4_put_19 (fun H locs hP hD hS => ?_)
    have hP : va_P D vwCl ([(h, .inr (4, [.ref sa, .ref pa, .int z, .ref er, .ref na, .long x1, .long x2, .long x3, .long hs])), (sa, .inl (cI, 71, .inl (upd s 0 ((e 0).toInt32)))), (na, .inl (cJ, 5, .inr (.inl e)))]) H := hP
    have hD : va_D A ([(h, .inr (4, [.ref sa, .ref pa, .int z, .ref er, .ref na, .long x1, .long x2, .long x3, .long hs])), (sa, .inl (cI, 71, .inl (upd s 0 ((e 0).toInt32)))), (na, .inl (cJ, 5, .inr (.inl e)))]) := hD
    refine lv_iinc (v := 1) (lv' := [(1, .int 1), (0, .ref h)]) hx hb dX4_put_20 hl (k := 0) rfl (by decide) (by decide) rfl (fun ls hl => ?_)
    refine lv_goto (tgt := 2) hx hb dX4_put_23 (by decide) ?_
    refine lv_iload_n hx hb dX4_put_2 rfl (lv_at hl 0 rfl) ?_
    refine lv_iconst (v := 5) hx hb dX4_put_3 (by decide) ?_
    refine lv_icmp_ge (tgt := 26) hx hb dX4_put_4 (by decide) (fun c_2 => ?_) (fun c_2 => ?_)
    · exact absurd c_2 (by decide)
    · skip
      refine lv_aload_n hx hb dX4_put_7 rfl (lv_at hl 1 rfl) ?_
      refine va_get (D := D) (ci := 4) (v := .ref sa) (C := RX4) (T := TX4) (N := 9) hx hb hts izX4_put_4 hown hK hP 0 rfl rfl 0 (by decide) (hm 1 (.fieldLink RX4 7 "TankFilterModel" "s" "[I") rfl) (fun _ h9 => h9) rfl dX4_put_8 ?_
      refine lv_iload_n hx hb dX4_put_11 rfl (lv_at hl 0 rfl) ?_
      refine lv_aload_n hx hb dX4_put_12 rfl (lv_at hl 1 rfl) ?_
      refine va_get (D := D) (ci := 4) (v := .ref na) (C := RX4) (T := TX4) (N := 9) hx hb hts izX4_put_4 hown hK hP 0 rfl rfl 4 (by decide) (hm 2 (.fieldLink RX4 19 "TankFilterModel" "now" "[J") rfl) (fun _ h9 => h9) rfl dX4_put_13 ?_
      refine lv_iload_n hx hb dX4_put_16 rfl (lv_at hl 0 rfl) ?_
      refine ka_lld (D := D) (j := 1) (n := 5) (f := e) hx hb hK hP 2 2 rfl rfl (rfl) (by decide) (by decide) dX4_put_17 ?_
      refine lv_l2i hx hb dX4_put_18 rfl ?_
      refine ka_ist (D := D) (j := 1) (n := 71) (f := upd s 0 ((e 0).toInt32)) hx hb hK hP hD hS 1 0 rfl rfl (rfl) (by decide) (by decide) dX4_put_19 (fun H locs hP hD hS => ?_)
      have hP : va_P D vwCl ([(h, .inr (4, [.ref sa, .ref pa, .int z, .ref er, .ref na, .long x1, .long x2, .long x3, .long hs])), (sa, .inl (cI, 71, .inl (upd (upd s 0 ((e 0).toInt32)) 1 ((e 1).toInt32)))), (na, .inl (cJ, 5, .inr (.inl e)))]) H := hP
      have hD : va_D A ([(h, .inr (4, [.ref sa, .ref pa, .int z, .ref er, .ref na, .long x1, .long x2, .long x3, .long hs])), (sa, .inl (cI, 71, .inl (upd (upd s 0 ((e 0).toInt32)) 1 ((e 1).toInt32)))), (na, .inl (cJ, 5, .inr (.inl e)))]) := hD
      refine lv_iinc (v := 2) (lv' := [(1, .int 2), (0, .ref h)]) hx hb dX4_put_20 hl (k := 0) rfl (by decide) (by decide) rfl (fun ls hl => ?_)
      refine lv_goto (tgt := 2) hx hb dX4_put_23 (by decide) ?_
      refine lv_iload_n hx hb dX4_put_2 rfl (lv_at hl 0 rfl) ?_
      refine lv_iconst (v := 5) hx hb dX4_put_3 (by decide) ?_
      refine lv_icmp_ge (tgt := 26) hx hb dX4_put_4 (by decide) (fun c_3 => ?_) (fun c_3 => ?_)
      · exact absurd c_3 (by decide)
      · skip
        refine lv_aload_n hx hb dX4_put_7 rfl (lv_at hl 1 rfl) ?_
        refine va_get (D := D) (ci := 4) (v := .ref sa) (C := RX4) (T := TX4) (N := 9) hx hb hts izX4_put_4 hown hK hP 0 rfl rfl 0 (by decide) (hm 1 (.fieldLink RX4 7 "TankFilterModel" "s" "[I") rfl) (fun _ h9 => h9) rfl dX4_put_8 ?_
        refine lv_iload_n hx hb dX4_put_11 rfl (lv_at hl 0 rfl) ?_
        refine lv_aload_n hx hb dX4_put_12 rfl (lv_at hl 1 rfl) ?_
        refine va_get (D := D) (ci := 4) (v := .ref na) (C := RX4) (T := TX4) (N := 9) hx hb hts izX4_put_4 hown hK hP 0 rfl rfl 4 (by decide) (hm 2 (.fieldLink RX4 19 "TankFilterModel" "now" "[J") rfl) (fun _ h9 => h9) rfl dX4_put_13 ?_
        refine lv_iload_n hx hb dX4_put_16 rfl (lv_at hl 0 rfl) ?_
        refine ka_lld (D := D) (j := 2) (n := 5) (f := e) hx hb hK hP 2 2 rfl rfl (rfl) (by decide) (by decide) dX4_put_17 ?_
        refine lv_l2i hx hb dX4_put_18 rfl ?_
        refine ka_ist (D := D) (j := 2) (n := 71) (f := upd (upd s 0 ((e 0).toInt32)) 1 ((e 1).toInt32)) hx hb hK hP hD hS 1 0 rfl rfl (rfl) (by decide) (by decide) dX4_put_19 (fun H locs hP hD hS => ?_)
        have hP : va_P D vwCl ([(h, .inr (4, [.ref sa, .ref pa, .int z, .ref er, .ref na, .long x1, .long x2, .long x3, .long hs])), (sa, .inl (cI, 71, .inl (upd (upd (upd s 0 ((e 0).toInt32)) 1 ((e 1).toInt32)) 2 ((e 2).toInt32)))), (na, .inl (cJ, 5, .inr (.inl e)))]) H := hP
        have hD : va_D A ([(h, .inr (4, [.ref sa, .ref pa, .int z, .ref er, .ref na, .long x1, .long x2, .long x3, .long hs])), (sa, .inl (cI, 71, .inl (upd (upd (upd s 0 ((e 0).toInt32)) 1 ((e 1).toInt32)) 2 ((e 2).toInt32)))), (na, .inl (cJ, 5, .inr (.inl e)))]) := hD
        refine lv_iinc (v := 3) (lv' := [(1, .int 3), (0, .ref h)]) hx hb dX4_put_20 hl (k := 0) rfl (by decide) (by decide) rfl (fun ls hl => ?_)
        refine lv_goto (tgt := 2) hx hb dX4_put_23 (by decide) ?_
        refine lv_iload_n hx hb dX4_put_2 rfl (lv_at hl 0 rfl) ?_
        refine lv_iconst (v := 5) hx hb dX4_put_3 (by decide) ?_
        refine lv_icmp_ge (tgt := 26) hx hb dX4_put_4 (by decide) (fun c_4 => ?_) (fun c_4 => ?_)
        · exact absurd c_4 (by decide)
        · skip
          refine lv_aload_n hx hb dX4_put_7 rfl (lv_at hl 1 rfl) ?_
          refine va_get (D := D) (ci := 4) (v := .ref sa) (C := RX4) (T := TX4) (N := 9) hx hb hts izX4_put_4 hown hK hP 0 rfl rfl 0 (by decide) (hm 1 (.fieldLink RX4 7 "TankFilterModel" "s" "[I") rfl) (fun _ h9 => h9) rfl dX4_put_8 ?_
          refine lv_iload_n hx hb dX4_put_11 rfl (lv_at hl 0 rfl) ?_
          refine lv_aload_n hx hb dX4_put_12 rfl (lv_at hl 1 rfl) ?_
          refine va_get (D := D) (ci := 4) (v := .ref na) (C := RX4) (T := TX4) (N := 9) hx hb hts izX4_put_4 hown hK hP 0 rfl rfl 4 (by decide) (hm 2 (.fieldLink RX4 19 "TankFilterModel" "now" "[J") rfl) (fun _ h9 => h9) rfl dX4_put_13 ?_
          refine lv_iload_n hx hb dX4_put_16 rfl (lv_at hl 0 rfl) ?_
          refine ka_lld (D := D) (j := 3) (n := 5) (f := e) hx hb hK hP 2 2 rfl rfl (rfl) (by decide) (by decide) dX4_put_17 ?_
          refine lv_l2i hx hb dX4_put_18 rfl ?_
          refine ka_ist (D := D) (j := 3) (n := 71) (f := upd (upd (upd s 0 ((e 0).toInt32)) 1 ((e 1).toInt32)) 2 ((e 2).toInt32)) hx hb hK hP hD hS 1 0 rfl rfl (rfl) (by decide) (by decide) dX4_put_19 (fun H locs hP hD hS => ?_)
          have hP : va_P D vwCl ([(h, .inr (4, [.ref sa, .ref pa, .int z, .ref er, .ref na, .long x1, .long x2, .long x3, .long hs])), (sa, .inl (cI, 71, .inl (upd (upd (upd (upd s 0 ((e 0).toInt32)) 1 ((e 1).toInt32)) 2 ((e 2).toInt32)) 3 ((e 3).toInt32)))), (na, .inl (cJ, 5, .inr (.inl e)))]) H := hP
          have hD : va_D A ([(h, .inr (4, [.ref sa, .ref pa, .int z, .ref er, .ref na, .long x1, .long x2, .long x3, .long hs])), (sa, .inl (cI, 71, .inl (upd (upd (upd (upd s 0 ((e 0).toInt32)) 1 ((e 1).toInt32)) 2 ((e 2).toInt32)) 3 ((e 3).toInt32)))), (na, .inl (cJ, 5, .inr (.inl e)))]) := hD
          refine lv_iinc (v := 4) (lv' := [(1, .int 4), (0, .ref h)]) hx hb dX4_put_20 hl (k := 0) rfl (by decide) (by decide) rfl (fun ls hl => ?_)
          refine lv_goto (tgt := 2) hx hb dX4_put_23 (by decide) ?_
          refine lv_iload_n hx hb dX4_put_2 rfl (lv_at hl 0 rfl) ?_
          refine lv_iconst (v := 5) hx hb dX4_put_3 (by decide) ?_
          refine lv_icmp_ge (tgt := 26) hx hb dX4_put_4 (by decide) (fun c_5 => ?_) (fun c_5 => ?_)
          · exact absurd c_5 (by decide)
          · skip
            refine lv_aload_n hx hb dX4_put_7 rfl (lv_at hl 1 rfl) ?_
            refine va_get (D := D) (ci := 4) (v := .ref sa) (C := RX4) (T := TX4) (N := 9) hx hb hts izX4_put_4 hown hK hP 0 rfl rfl 0 (by decide) (hm 1 (.fieldLink RX4 7 "TankFilterModel" "s" "[I") rfl) (fun _ h9 => h9) rfl dX4_put_8 ?_
            refine lv_iload_n hx hb dX4_put_11 rfl (lv_at hl 0 rfl) ?_
            refine lv_aload_n hx hb dX4_put_12 rfl (lv_at hl 1 rfl) ?_
            refine va_get (D := D) (ci := 4) (v := .ref na) (C := RX4) (T := TX4) (N := 9) hx hb hts izX4_put_4 hown hK hP 0 rfl rfl 4 (by decide) (hm 2 (.fieldLink RX4 19 "TankFilterModel" "now" "[J") rfl) (fun _ h9 => h9) rfl dX4_put_13 ?_
            refine lv_iload_n hx hb dX4_put_16 rfl (lv_at hl 0 rfl) ?_
            refine ka_lld (D := D) (j := 4) (n := 5) (f := e) hx hb hK hP 2 2 rfl rfl (rfl) (by decide) (by decide) dX4_put_17 ?_
            refine lv_l2i hx hb dX4_put_18 rfl ?_
            refine ka_ist (D := D) (j := 4) (n := 71) (f := upd (upd (upd (upd s 0 ((e 0).toInt32)) 1 ((e 1).toInt32)) 2 ((e 2).toInt32)) 3 ((e 3).toInt32)) hx hb hK hP hD hS 1 0 rfl rfl (rfl) (by decide) (by decide) dX4_put_19 (fun H locs hP hD hS => ?_)
            have hP : va_P D vwCl ([(h, .inr (4, [.ref sa, .ref pa, .int z, .ref er, .ref na, .long x1, .long x2, .long x3, .long hs])), (sa, .inl (cI, 71, .inl (upd (upd (upd (upd (upd s 0 ((e 0).toInt32)) 1 ((e 1).toInt32)) 2 ((e 2).toInt32)) 3 ((e 3).toInt32)) 4 ((e 4).toInt32)))), (na, .inl (cJ, 5, .inr (.inl e)))]) H := hP
            have hD : va_D A ([(h, .inr (4, [.ref sa, .ref pa, .int z, .ref er, .ref na, .long x1, .long x2, .long x3, .long hs])), (sa, .inl (cI, 71, .inl (upd (upd (upd (upd (upd s 0 ((e 0).toInt32)) 1 ((e 1).toInt32)) 2 ((e 2).toInt32)) 3 ((e 3).toInt32)) 4 ((e 4).toInt32)))), (na, .inl (cJ, 5, .inr (.inl e)))]) := hD
            refine lv_iinc (v := 5) (lv' := [(1, .int 5), (0, .ref h)]) hx hb dX4_put_20 hl (k := 0) rfl (by decide) (by decide) rfl (fun ls hl => ?_)
            refine lv_goto (tgt := 2) hx hb dX4_put_23 (by decide) ?_
            refine lv_iload_n hx hb dX4_put_2 rfl (lv_at hl 0 rfl) ?_
            refine lv_iconst (v := 5) hx hb dX4_put_3 (by decide) ?_
            refine lv_icmp_ge (tgt := 26) hx hb dX4_put_4 (by decide) (fun c_6 => ?_) (fun c_6 => ?_)
            · skip
              obtain ⟨hP, hD⟩ := kp_arrI hP hD 1 rfl (tk_put s e) (tk_put_up s e)
              have hP : va_P D vwCl ([(h, .inr (4, [.ref sa, .ref pa, .int z, .ref er, .ref na, .long x1, .long x2, .long x3, .long hs])), (sa, .inl (cI, 71, .inl (tk_put s e))), (na, .inl (cJ, 5, .inr (.inl e)))]) H := hP
              have hD : va_D A ([(h, .inr (4, [.ref sa, .ref pa, .int z, .ref er, .ref na, .long x1, .long x2, .long x3, .long hs])), (sa, .inl (cI, 71, .inl (tk_put s e))), (na, .inl (cJ, 5, .inr (.inl e)))]) := hD
              exact W.vret hx hb hr (fun zt ht hW => ⟨⟨(), rfl, trivial, KB.of hAe (by rw [ht]; exact hP) hD⟩, hS.F ht⟩) hS.2.2 dX4_put_26
            · exact absurd c_6 (by decide)

theorem tk_z64 : (0 : Int32).toInt64 = 0 := by decide
theorem tk_pos_ge {a : Int64} (h : 0 ≤ a) : tk_pos a = a := tk_pos_p (Int64.not_lt.mpr h)
theorem ad_ok_y {e : Nat → Int64} {u q w a : Int64} (hv : tk_in (e 1) = true) (hc : 0 ≤ e 4 + w) (ha : a = tk_pos (e 2 + 2 * e 3 + e 4 + q)) : ad_ok e u q w = (tk_in (e 0 + e 1 + u) && tk_in a && tk_in (e 3 + e 4) && tk_in (e 4 + w)) := by
  rw [ad_ok, tk_mok, hv, tk_pos_ge hc, ha, Bool.and_true]
theorem ad_e_y {e : Nat → Int64} {u q w a : Int64} (hc : 0 ≤ e 4 + w) (ha : a = tk_pos (e 2 + 2 * e 3 + e 4 + q)) : ∀ j, j < 5 → vp_updL (vp_updL (vp_updL (vp_updL e 0 (e 0 + e 1 + u)) 2 a) 3 (e 3 + e 4)) 4 (e 4 + w) j = ad_e e u q w j := by
  rw [ha]
  refine tk_five rfl rfl rfl rfl ?_
  show e 4 + w = tk_pos (e 4 + w)
  exact (tk_pos_ge hc).symm

theorem izX4_predicts_4 : ∀ w ∈ wsX40, w ∈ wsX4_predicts := fun _ h => List.mem_cons_of_mem _ (List.mem_append_right _ h)
set_option maxHeartbeats 4000000 in
set_option maxRecDepth 100000 in
/-- predicts -/
theorem k_X4_predicts (l : Launch) (D : va_G) (cI cM cJ : ClassId) (sz : Nat) (h sa pa er na : Nat) (z : Int32) (x1 x2 x3 hs : Int64) (s : Nat → Int32) (e : Nat → Int64) (uu ww : Int32) (hv : tk_in (e 1) = true) (hc : 0 ≤ e 4 + ww.toInt64) : Met l yX4_predicts wsX4_predicts ({ frames := 1, cells := 0, slots := 0, locals := 21 }) (va_Pc [.ref h, .int uu, .int ww] (KP D (tk_T cI cM cJ) ([(h, .inr (4, [.ref sa, .ref pa, .int z, .ref er, .ref na, .long x1, .long x2, .long x3, .long hs])), (sa, .inl (cI, 71, .inl s)), (na, .inl (cJ, 5, .inr (.inl e)))]) sz)) (va_Qi (fun (r : Int32) (u : Nat → Int64) => (ad_ok e uu.toInt64 (s 5).toInt64 ww.toInt64 = true ∧ r = 1 ∧ u = ad_e e uu.toInt64 (s 5).toInt64 ww.toInt64) ∨ (ad_ok e uu.toInt64 (s 5).toInt64 ww.toInt64 = false ∧ r = 0 ∧ e = u)) (fun u zt => KB D ([(h, .inr (4, [.ref sa, .ref pa, .int z, .ref er, .ref na, .long x1, .long x2, .long x3, .long hs])), (sa, .inl (cI, 71, .inl s)), (na, .inl (cJ, 5, .inr (.inl e)))]) ([(h, .inr (4, [.ref sa, .ref pa, .int z, .ref er, .ref na, .long x1, .long x2, .long x3, .long hs])), (sa, .inl (cI, 71, .inl s)), (na, .inl (cJ, 5, .inr (.inl u)))]) sz zt) (va_A ([(h, .inr (4, [.ref sa, .ref pa, .int z, .ref er, .ref na, .long x1, .long x2, .long x3, .long hs])), (sa, .inl (cI, 71, .inl s)), (na, .inl (cJ, 5, .inr (.inl e)))]) sz)) 0 0 (va_A ([(h, .inr (4, [.ref sa, .ref pa, .int z, .ref er, .ref na, .long x1, .long x2, .long x3, .long hs])), (sa, .inl (cI, 71, .inl s)), (na, .inl (cJ, 5, .inr (.inl e)))]) sz) := by
  refine Met.ofW (cc := cX4_predicts) (maxL := 11) (ret := (some .boolean)) (by decide) rfl ?_
  intro zp ze zs zm zargs zbelow zmeth zc zs1 B hml hv
  obtain ⟨rfl, hsz, hP, hK, hD0, hN⟩ := hv
  have hx := B.exec
  have hb := B.bytes
  have hr := B.returns
  have hts := atoms_spec (ws := wsX4_predicts) B.pre
  have hm : ∀ (i : Nat) (w : Cond), wsX4_predicts[i]? = some w → w.before _ zs = true := fun i w h => hts w (List.mem_of_getElem? h)
  have hown : zs.vm.findClass RX4 = some zm.cls := findClass_of_methodNamed B.named
  have hlocks := B.notSynchronized
  subst hsz
  have hD := hD0.self (sz := zs.heap.size)
  generalize hAe : va_A ([(h, .inr (4, [.ref sa, .ref pa, .int z, .ref er, .ref na, .long x1, .long x2, .long x3, .long hs])), (sa, .inl (cI, 71, .inl s)), (na, .inl (cJ, 5, .inr (.inl e)))]) zs.heap.size = A at hD ⊢
  have hA : ∀ q : Nat, zs.heap.size ≤ q → A q := fun q h => by rw [← hAe]; exact Or.inr h
  have hS : va_S A zs.heap zs.heap [] := va_S.rf
  have hP : va_P D vwCl ([(h, .inr (4, [.ref sa, .ref pa, .int z, .ref er, .ref na, .long x1, .long x2, .long x3, .long hs])), (sa, .inl (cI, 71, .inl s)), (na, .inl (cJ, 5, .inr (.inl e)))]) zs.heap := hP
  have hl := lv_entry ([.ref h, .int uu, .int ww]) (n := 11) (Nat.le_of_ble_eq_true rfl)
  rw [lg_entry_eq]
  generalize (lg_sl ([.ref h, .int uu, .int ww]) ++ List.replicate (11 - (lg_sl ([.ref h, .int uu, .int ww])).length) Slot.unset).toArray = ls at hl ⊢
  have hl : lv_has ls 11 [(0, .ref h), (1, .int uu), (2, .int ww)] := hl
  refine lv_aload_n hx hb dX4_predicts_0 rfl (lv_at hl 0 rfl) ?_
  refine va_get (D := D) (ci := 4) (v := .ref na) (C := RX4) (T := TX4) (N := 9) hx hb hts izX4_predicts_4 hown hK hP 0 rfl rfl 4 (by decide) (hm 1 (.fieldLink RX4 19 "TankFilterModel" "now" "[J") rfl) (fun _ h9 => h9) rfl dX4_predicts_1 ?_
  refine lv_iconst (v := 0) hx hb dX4_predicts_4 (by decide) ?_
  refine ka_lld (D := D) (j := 0) (n := 5) (f := e) hx hb hK hP 2 2 rfl rfl (rfl) (by decide) (by decide) dX4_predicts_5 ?_
  refine lv_aload_n hx hb dX4_predicts_6 rfl (lv_at hl 0 rfl) ?_
  refine va_get (D := D) (ci := 4) (v := .ref na) (C := RX4) (T := TX4) (N := 9) hx hb hts izX4_predicts_4 hown hK hP 0 rfl rfl 4 (by decide) (hm 1 (.fieldLink RX4 19 "TankFilterModel" "now" "[J") rfl) (fun _ h9 => h9) rfl dX4_predicts_7 ?_
  refine lv_iconst (v := 1) hx hb dX4_predicts_10 (by decide) ?_
  refine ka_lld (D := D) (j := 1) (n := 5) (f := e) hx hb hK hP 2 2 rfl rfl (rfl) (by decide) (by decide) dX4_predicts_11 ?_
  refine lv_ladd hx hb dX4_predicts_12 ?_
  refine lv_iload_n hx hb dX4_predicts_13 rfl (lv_at hl 1 rfl) ?_
  refine lv_i2l hx hb dX4_predicts_14 rfl ?_
  refine lv_ladd hx hb dX4_predicts_15 ?_
  refine lv_lstore_n (lv' := [(3, .long (((e 0) + (e 1)) + uu.toInt64)), (0, .ref h), (1, .int uu), (2, .int ww)]) hx hb dX4_predicts_16 rfl hl (by decide) rfl (fun ls hl => ?_)
  refine lv_aload_n hx hb dX4_predicts_17 rfl (lv_at hl 1 rfl) ?_
  refine va_get (D := D) (ci := 4) (v := .ref na) (C := RX4) (T := TX4) (N := 9) hx hb hts izX4_predicts_4 hown hK hP 0 rfl rfl 4 (by decide) (hm 1 (.fieldLink RX4 19 "TankFilterModel" "now" "[J") rfl) (fun _ h9 => h9) rfl dX4_predicts_18 ?_
  refine lv_iconst (v := 2) hx hb dX4_predicts_21 (by decide) ?_
  refine ka_lld (D := D) (j := 2) (n := 5) (f := e) hx hb hK hP 2 2 rfl rfl (rfl) (by decide) (by decide) dX4_predicts_22 ?_
  refine lv_ldc2 (v := 2) hx hb hown (hm 2 (.constantLong RX4 40 (2)) rfl) dX4_predicts_23 ?_
  refine lv_aload_n hx hb dX4_predicts_26 rfl (lv_at hl 1 rfl) ?_
  refine va_get (D := D) (ci := 4) (v := .ref na) (C := RX4) (T := TX4) (N := 9) hx hb hts izX4_predicts_4 hown hK hP 0 rfl rfl 4 (by decide) (hm 1 (.fieldLink RX4 19 "TankFilterModel" "now" "[J") rfl) (fun _ h9 => h9) rfl dX4_predicts_27 ?_
  refine lv_iconst (v := 3) hx hb dX4_predicts_30 (by decide) ?_
  refine ka_lld (D := D) (j := 3) (n := 5) (f := e) hx hb hK hP 2 2 rfl rfl (rfl) (by decide) (by decide) dX4_predicts_31 ?_
  refine lv_lmul hx hb dX4_predicts_32 ?_
  refine lv_ladd hx hb dX4_predicts_33 ?_
  refine lv_aload_n hx hb dX4_predicts_34 rfl (lv_at hl 1 rfl) ?_
  refine va_get (D := D) (ci := 4) (v := .ref na) (C := RX4) (T := TX4) (N := 9) hx hb hts izX4_predicts_4 hown hK hP 0 rfl rfl 4 (by decide) (hm 1 (.fieldLink RX4 19 "TankFilterModel" "now" "[J") rfl) (fun _ h9 => h9) rfl dX4_predicts_35 ?_
  refine lv_iconst (v := 4) hx hb dX4_predicts_38 (by decide) ?_
  refine ka_lld (D := D) (j := 4) (n := 5) (f := e) hx hb hK hP 2 2 rfl rfl (rfl) (by decide) (by decide) dX4_predicts_39 ?_
  refine lv_ladd hx hb dX4_predicts_40 ?_
  refine lv_aload_n hx hb dX4_predicts_41 rfl (lv_at hl 1 rfl) ?_
  refine va_get (D := D) (ci := 4) (v := .ref sa) (C := RX4) (T := TX4) (N := 9) hx hb hts izX4_predicts_4 hown hK hP 0 rfl rfl 0 (by decide) (hm 3 (.fieldLink RX4 7 "TankFilterModel" "s" "[I") rfl) (fun _ h9 => h9) rfl dX4_predicts_42 ?_
  refine lv_iconst (v := 5) hx hb dX4_predicts_45 (by decide) ?_
  refine ka_ild (D := D) (j := 5) (n := 71) (f := s) hx hb hK hP 1 0 rfl rfl (rfl) (by decide) (by decide) dX4_predicts_46 ?_
  refine lv_i2l hx hb dX4_predicts_47 rfl ?_
  refine lv_ladd hx hb dX4_predicts_48 ?_
  refine lv_lstore (lv' := [(5, .long ((((e 2) + (2 * (e 3))) + (e 4)) + ((s 5).toInt64))), (3, .long (((e 0) + (e 1)) + uu.toInt64)), (0, .ref h), (1, .int uu), (2, .int ww)]) hx hb dX4_predicts_49 hl (by decide) rfl (fun ls hl => ?_)
  refine lv_aload_n hx hb dX4_predicts_51 rfl (lv_at hl 2 rfl) ?_
  refine va_get (D := D) (ci := 4) (v := .ref na) (C := RX4) (T := TX4) (N := 9) hx hb hts izX4_predicts_4 hown hK hP 0 rfl rfl 4 (by decide) (hm 1 (.fieldLink RX4 19 "TankFilterModel" "now" "[J") rfl) (fun _ h9 => h9) rfl dX4_predicts_52 ?_
  refine lv_iconst (v := 3) hx hb dX4_predicts_55 (by decide) ?_
  refine ka_lld (D := D) (j := 3) (n := 5) (f := e) hx hb hK hP 2 2 rfl rfl (rfl) (by decide) (by decide) dX4_predicts_56 ?_
  refine lv_aload_n hx hb dX4_predicts_57 rfl (lv_at hl 2 rfl) ?_
  refine va_get (D := D) (ci := 4) (v := .ref na) (C := RX4) (T := TX4) (N := 9) hx hb hts izX4_predicts_4 hown hK hP 0 rfl rfl 4 (by decide) (hm 1 (.fieldLink RX4 19 "TankFilterModel" "now" "[J") rfl) (fun _ h9 => h9) rfl dX4_predicts_58 ?_
  refine lv_iconst (v := 4) hx hb dX4_predicts_61 (by decide) ?_
  refine ka_lld (D := D) (j := 4) (n := 5) (f := e) hx hb hK hP 2 2 rfl rfl (rfl) (by decide) (by decide) dX4_predicts_62 ?_
  refine lv_ladd hx hb dX4_predicts_63 ?_
  refine lv_lstore (lv' := [(7, .long ((e 3) + (e 4))), (5, .long ((((e 2) + (2 * (e 3))) + (e 4)) + ((s 5).toInt64))), (3, .long (((e 0) + (e 1)) + uu.toInt64)), (0, .ref h), (1, .int uu), (2, .int ww)]) hx hb dX4_predicts_64 hl (by decide) rfl (fun ls hl => ?_)
  refine lv_aload_n hx hb dX4_predicts_66 rfl (lv_at hl 3 rfl) ?_
  refine va_get (D := D) (ci := 4) (v := .ref na) (C := RX4) (T := TX4) (N := 9) hx hb hts izX4_predicts_4 hown hK hP 0 rfl rfl 4 (by decide) (hm 1 (.fieldLink RX4 19 "TankFilterModel" "now" "[J") rfl) (fun _ h9 => h9) rfl dX4_predicts_67 ?_
  refine lv_iconst (v := 4) hx hb dX4_predicts_70 (by decide) ?_
  refine ka_lld (D := D) (j := 4) (n := 5) (f := e) hx hb hK hP 2 2 rfl rfl (rfl) (by decide) (by decide) dX4_predicts_71 ?_
  refine lv_iload_n hx hb dX4_predicts_72 rfl (lv_at hl 5 rfl) ?_
  refine lv_i2l hx hb dX4_predicts_73 rfl ?_
  refine lv_ladd hx hb dX4_predicts_74 ?_
  refine lv_lstore (lv' := [(9, .long ((e 4) + ww.toInt64)), (7, .long ((e 3) + (e 4))), (5, .long ((((e 2) + (2 * (e 3))) + (e 4)) + ((s 5).toInt64))), (3, .long (((e 0) + (e 1)) + uu.toInt64)), (0, .ref h), (1, .int uu), (2, .int ww)]) hx hb dX4_predicts_75 hl (by decide) rfl (fun ls hl => ?_)
  refine lv_lload hx hb dX4_predicts_77 (lv_at hl 2 rfl) ?_
  refine lv_lconst (v := 0) hx hb dX4_predicts_79 (by decide) ?_
  refine W.lcmp hx hb dX4_predicts_80 ?_
  refine lv_if_ge (tgt := 88) hx hb dX4_predicts_81 (by decide) (fun c_1 => ?_) (fun c_1 => ?_)
  · have c_1 := (lg_cmp_ge _ _).mp c_1
    refine lv_lload hx hb dX4_predicts_88 (lv_at hl 2 rfl) ?_
    refine lv_lstore (lv' := [(5, .long ((((e 2) + (2 * (e 3))) + (e 4)) + ((s 5).toInt64))), (9, .long ((e 4) + ww.toInt64)), (7, .long ((e 3) + (e 4))), (3, .long (((e 0) + (e 1)) + uu.toInt64)), (0, .ref h), (1, .int uu), (2, .int ww)]) hx hb dX4_predicts_90 hl (by decide) rfl (fun ls hl => ?_)
    refine lv_lload_n hx hb dX4_predicts_92 rfl (lv_at hl 3 rfl) ?_
    refine kc_i (wc := []) (wr := [(h, .inr (4, [.ref sa, .ref pa, .int z, .ref er, .ref na, .long x1, .long x2, .long x3, .long hs])), (sa, .inl (cI, 71, .inl s)), (na, .inl (cJ, 5, .inr (.inl e)))]) (va_runS (As := [.long (((e 0) + (e 1)) + uu.toInt64)]) (rest := []) ⟨hx, hb, hml, hown, hts⟩ (k_X4_isIn l D cI cM cJ _ (((e 0) + (e 1)) + uu.toInt64)) (va_cwS 1 hts gX4_predicts_X4_isIn rfl rfl rfl (by decide +kernel) ⟨Nat.le_of_ble_eq_true rfl, Nat.le_of_ble_eq_true rfl⟩) (kp_preS (wc := []) (wr := [(h, .inr (4, [.ref sa, .ref pa, .int z, .ref er, .ref na, .long x1, .long x2, .long x3, .long hs])), (sa, .inl (cI, 71, .inl s)), (na, .inl (cJ, 5, .inr (.inl e)))]) hN hK hP hD) rfl rfl hl.1 rfl (lv_room (Nat.le_of_ble_eq_true rfl)) dX4_predicts_93 ⟨Nat.le_of_ble_eq_true rfl, Nat.le_of_ble_eq_true rfl⟩) hP hD hS hA (fun r_2 u_2 H locs p_2 hP hD hS => ?_)
    rcases p_2 with ⟨p_2, rfl⟩ | ⟨p_2, rfl⟩
    · have hP : va_P D vwCl ([(h, .inr (4, [.ref sa, .ref pa, .int z, .ref er, .ref na, .long x1, .long x2, .long x3, .long hs])), (sa, .inl (cI, 71, .inl s)), (na, .inl (cJ, 5, .inr (.inl e)))]) H := hP
      have hD : va_D A ([(h, .inr (4, [.ref sa, .ref pa, .int z, .ref er, .ref na, .long x1, .long x2, .long x3, .long hs])), (sa, .inl (cI, 71, .inl s)), (na, .inl (cJ, 5, .inr (.inl e)))]) := hD
      refine lv_if_eq (tgt := 123) hx hb dX4_predicts_96 (by decide) (fun c_3 => ?_) (fun c_3 => ?_)
      · exact absurd c_3 (by decide)
      · skip
        refine lv_lload hx hb dX4_predicts_99 (lv_at hl 0 rfl) ?_
        refine kc_i (wc := []) (wr := [(h, .inr (4, [.ref sa, .ref pa, .int z, .ref er, .ref na, .long x1, .long x2, .long x3, .long hs])), (sa, .inl (cI, 71, .inl s)), (na, .inl (cJ, 5, .inr (.inl e)))]) (va_runS (As := [.long ((((e 2) + (2 * (e 3))) + (e 4)) + ((s 5).toInt64))]) (rest := []) ⟨hx, hb, hml, hown, hts⟩ (k_X4_isIn l D cI cM cJ _ ((((e 2) + (2 * (e 3))) + (e 4)) + ((s 5).toInt64))) (va_cwS 1 hts gX4_predicts_X4_isIn rfl rfl rfl (by decide +kernel) ⟨Nat.le_of_ble_eq_true rfl, Nat.le_of_ble_eq_true rfl⟩) (kp_preS (wc := []) (wr := [(h, .inr (4, [.ref sa, .ref pa, .int z, .ref er, .ref na, .long x1, .long x2, .long x3, .long hs])), (sa, .inl (cI, 71, .inl s)), (na, .inl (cJ, 5, .inr (.inl e)))]) hN hK hP hD) rfl rfl hl.1 rfl (lv_room (Nat.le_of_ble_eq_true rfl)) dX4_predicts_101 ⟨Nat.le_of_ble_eq_true rfl, Nat.le_of_ble_eq_true rfl⟩) hP hD hS hA (fun r_4 u_4 H locs p_4 hP hD hS => ?_)
        rcases p_4 with ⟨p_4, rfl⟩ | ⟨p_4, rfl⟩
        · have hP : va_P D vwCl ([(h, .inr (4, [.ref sa, .ref pa, .int z, .ref er, .ref na, .long x1, .long x2, .long x3, .long hs])), (sa, .inl (cI, 71, .inl s)), (na, .inl (cJ, 5, .inr (.inl e)))]) H := hP
          have hD : va_D A ([(h, .inr (4, [.ref sa, .ref pa, .int z, .ref er, .ref na, .long x1, .long x2, .long x3, .long hs])), (sa, .inl (cI, 71, .inl s)), (na, .inl (cJ, 5, .inr (.inl e)))]) := hD
          refine lv_if_eq (tgt := 123) hx hb dX4_predicts_104 (by decide) (fun c_5 => ?_) (fun c_5 => ?_)
          · exact absurd c_5 (by decide)
          · skip
            refine lv_lload hx hb dX4_predicts_107 (lv_at hl 2 rfl) ?_
            refine kc_i (wc := []) (wr := [(h, .inr (4, [.ref sa, .ref pa, .int z, .ref er, .ref na, .long x1, .long x2, .long x3, .long hs])), (sa, .inl (cI, 71, .inl s)), (na, .inl (cJ, 5, .inr (.inl e)))]) (va_runS (As := [.long ((e 3) + (e 4))]) (rest := []) ⟨hx, hb, hml, hown, hts⟩ (k_X4_isIn l D cI cM cJ _ ((e 3) + (e 4))) (va_cwS 1 hts gX4_predicts_X4_isIn rfl rfl rfl (by decide +kernel) ⟨Nat.le_of_ble_eq_true rfl, Nat.le_of_ble_eq_true rfl⟩) (kp_preS (wc := []) (wr := [(h, .inr (4, [.ref sa, .ref pa, .int z, .ref er, .ref na, .long x1, .long x2, .long x3, .long hs])), (sa, .inl (cI, 71, .inl s)), (na, .inl (cJ, 5, .inr (.inl e)))]) hN hK hP hD) rfl rfl hl.1 rfl (lv_room (Nat.le_of_ble_eq_true rfl)) dX4_predicts_109 ⟨Nat.le_of_ble_eq_true rfl, Nat.le_of_ble_eq_true rfl⟩) hP hD hS hA (fun r_6 u_6 H locs p_6 hP hD hS => ?_)
            rcases p_6 with ⟨p_6, rfl⟩ | ⟨p_6, rfl⟩
            · have hP : va_P D vwCl ([(h, .inr (4, [.ref sa, .ref pa, .int z, .ref er, .ref na, .long x1, .long x2, .long x3, .long hs])), (sa, .inl (cI, 71, .inl s)), (na, .inl (cJ, 5, .inr (.inl e)))]) H := hP
              have hD : va_D A ([(h, .inr (4, [.ref sa, .ref pa, .int z, .ref er, .ref na, .long x1, .long x2, .long x3, .long hs])), (sa, .inl (cI, 71, .inl s)), (na, .inl (cJ, 5, .inr (.inl e)))]) := hD
              refine lv_if_eq (tgt := 123) hx hb dX4_predicts_112 (by decide) (fun c_7 => ?_) (fun c_7 => ?_)
              · exact absurd c_7 (by decide)
              · skip
                refine lv_lload hx hb dX4_predicts_115 (lv_at hl 1 rfl) ?_
                refine kc_i (wc := []) (wr := [(h, .inr (4, [.ref sa, .ref pa, .int z, .ref er, .ref na, .long x1, .long x2, .long x3, .long hs])), (sa, .inl (cI, 71, .inl s)), (na, .inl (cJ, 5, .inr (.inl e)))]) (va_runS (As := [.long ((e 4) + ww.toInt64)]) (rest := []) ⟨hx, hb, hml, hown, hts⟩ (k_X4_isIn l D cI cM cJ _ ((e 4) + ww.toInt64)) (va_cwS 1 hts gX4_predicts_X4_isIn rfl rfl rfl (by decide +kernel) ⟨Nat.le_of_ble_eq_true rfl, Nat.le_of_ble_eq_true rfl⟩) (kp_preS (wc := []) (wr := [(h, .inr (4, [.ref sa, .ref pa, .int z, .ref er, .ref na, .long x1, .long x2, .long x3, .long hs])), (sa, .inl (cI, 71, .inl s)), (na, .inl (cJ, 5, .inr (.inl e)))]) hN hK hP hD) rfl rfl hl.1 rfl (lv_room (Nat.le_of_ble_eq_true rfl)) dX4_predicts_117 ⟨Nat.le_of_ble_eq_true rfl, Nat.le_of_ble_eq_true rfl⟩) hP hD hS hA (fun r_8 u_8 H locs p_8 hP hD hS => ?_)
                rcases p_8 with ⟨p_8, rfl⟩ | ⟨p_8, rfl⟩
                · have hP : va_P D vwCl ([(h, .inr (4, [.ref sa, .ref pa, .int z, .ref er, .ref na, .long x1, .long x2, .long x3, .long hs])), (sa, .inl (cI, 71, .inl s)), (na, .inl (cJ, 5, .inr (.inl e)))]) H := hP
                  have hD : va_D A ([(h, .inr (4, [.ref sa, .ref pa, .int z, .ref er, .ref na, .long x1, .long x2, .long x3, .long hs])), (sa, .inl (cI, 71, .inl s)), (na, .inl (cJ, 5, .inr (.inl e)))]) := hD
                  refine lv_if_ne (tgt := 125) hx hb dX4_predicts_120 (by decide) (fun c_9 => ?_) (fun c_9 => ?_)
                  · skip
                    refine lv_aload_n hx hb dX4_predicts_125 rfl (lv_at hl 4 rfl) ?_
                    refine va_get (D := D) (ci := 4) (v := .ref na) (C := RX4) (T := TX4) (N := 9) hx hb hts izX4_predicts_4 hown hK hP 0 rfl rfl 4 (by decide) (hm 1 (.fieldLink RX4 19 "TankFilterModel" "now" "[J") rfl) (fun _ h9 => h9) rfl dX4_predicts_126 ?_
                    refine lv_iconst (v := 0) hx hb dX4_predicts_129 (by decide) ?_
                    refine lv_lload_n hx hb dX4_predicts_130 rfl (lv_at hl 3 rfl) ?_
                    refine ka_lst (D := D) (j := 0) (n := 5) (f := e) hx hb hK hP hD hS 2 2 rfl rfl (rfl) (by decide) (by decide) dX4_predicts_131 (fun H locs hP hD hS => ?_)
                    have hP : va_P D vwCl ([(h, .inr (4, [.ref sa, .ref pa, .int z, .ref er, .ref na, .long x1, .long x2, .long x3, .long hs])), (sa, .inl (cI, 71, .inl s)), (na, .inl (cJ, 5, .inr (.inl (vp_updL e 0 (((e 0) + (e 1)) + uu.toInt64)))))]) H := hP
                    have hD : va_D A ([(h, .inr (4, [.ref sa, .ref pa, .int z, .ref er, .ref na, .long x1, .long x2, .long x3, .long hs])), (sa, .inl (cI, 71, .inl s)), (na, .inl (cJ, 5, .inr (.inl (vp_updL e 0 (((e 0) + (e 1)) + uu.toInt64)))))]) := hD
                    refine lv_aload_n hx hb dX4_predicts_132 rfl (lv_at hl 4 rfl) ?_
                    refine va_get (D := D) (ci := 4) (v := .ref na) (C := RX4) (T := TX4) (N := 9) hx hb hts izX4_predicts_4 hown hK hP 0 rfl rfl 4 (by decide) (hm 1 (.fieldLink RX4 19 "TankFilterModel" "now" "[J") rfl) (fun _ h9 => h9) rfl dX4_predicts_133 ?_
                    refine lv_iconst (v := 2) hx hb dX4_predicts_136 (by decide) ?_
                    refine lv_lload hx hb dX4_predicts_137 (lv_at hl 0 rfl) ?_
                    refine ka_lst (D := D) (j := 2) (n := 5) (f := vp_updL e 0 (((e 0) + (e 1)) + uu.toInt64)) hx hb hK hP hD hS 2 2 rfl rfl (rfl) (by decide) (by decide) dX4_predicts_139 (fun H locs hP hD hS => ?_)
                    have hP : va_P D vwCl ([(h, .inr (4, [.ref sa, .ref pa, .int z, .ref er, .ref na, .long x1, .long x2, .long x3, .long hs])), (sa, .inl (cI, 71, .inl s)), (na, .inl (cJ, 5, .inr (.inl (vp_updL (vp_updL e 0 (((e 0) + (e 1)) + uu.toInt64)) 2 ((((e 2) + (2 * (e 3))) + (e 4)) + ((s 5).toInt64))))))]) H := hP
                    have hD : va_D A ([(h, .inr (4, [.ref sa, .ref pa, .int z, .ref er, .ref na, .long x1, .long x2, .long x3, .long hs])), (sa, .inl (cI, 71, .inl s)), (na, .inl (cJ, 5, .inr (.inl (vp_updL (vp_updL e 0 (((e 0) + (e 1)) + uu.toInt64)) 2 ((((e 2) + (2 * (e 3))) + (e 4)) + ((s 5).toInt64))))))]) := hD
                    refine lv_aload_n hx hb dX4_predicts_140 rfl (lv_at hl 4 rfl) ?_
                    refine va_get (D := D) (ci := 4) (v := .ref na) (C := RX4) (T := TX4) (N := 9) hx hb hts izX4_predicts_4 hown hK hP 0 rfl rfl 4 (by decide) (hm 1 (.fieldLink RX4 19 "TankFilterModel" "now" "[J") rfl) (fun _ h9 => h9) rfl dX4_predicts_141 ?_
                    refine lv_iconst (v := 3) hx hb dX4_predicts_144 (by decide) ?_
                    refine lv_lload hx hb dX4_predicts_145 (lv_at hl 2 rfl) ?_
                    refine ka_lst (D := D) (j := 3) (n := 5) (f := vp_updL (vp_updL e 0 (((e 0) + (e 1)) + uu.toInt64)) 2 ((((e 2) + (2 * (e 3))) + (e 4)) + ((s 5).toInt64))) hx hb hK hP hD hS 2 2 rfl rfl (rfl) (by decide) (by decide) dX4_predicts_147 (fun H locs hP hD hS => ?_)
                    have hP : va_P D vwCl ([(h, .inr (4, [.ref sa, .ref pa, .int z, .ref er, .ref na, .long x1, .long x2, .long x3, .long hs])), (sa, .inl (cI, 71, .inl s)), (na, .inl (cJ, 5, .inr (.inl (vp_updL (vp_updL (vp_updL e 0 (((e 0) + (e 1)) + uu.toInt64)) 2 ((((e 2) + (2 * (e 3))) + (e 4)) + ((s 5).toInt64))) 3 ((e 3) + (e 4))))))]) H := hP
                    have hD : va_D A ([(h, .inr (4, [.ref sa, .ref pa, .int z, .ref er, .ref na, .long x1, .long x2, .long x3, .long hs])), (sa, .inl (cI, 71, .inl s)), (na, .inl (cJ, 5, .inr (.inl (vp_updL (vp_updL (vp_updL e 0 (((e 0) + (e 1)) + uu.toInt64)) 2 ((((e 2) + (2 * (e 3))) + (e 4)) + ((s 5).toInt64))) 3 ((e 3) + (e 4))))))]) := hD
                    refine lv_aload_n hx hb dX4_predicts_148 rfl (lv_at hl 4 rfl) ?_
                    refine va_get (D := D) (ci := 4) (v := .ref na) (C := RX4) (T := TX4) (N := 9) hx hb hts izX4_predicts_4 hown hK hP 0 rfl rfl 4 (by decide) (hm 1 (.fieldLink RX4 19 "TankFilterModel" "now" "[J") rfl) (fun _ h9 => h9) rfl dX4_predicts_149 ?_
                    refine lv_iconst (v := 4) hx hb dX4_predicts_152 (by decide) ?_
                    refine lv_lload hx hb dX4_predicts_153 (lv_at hl 1 rfl) ?_
                    refine ka_lst (D := D) (j := 4) (n := 5) (f := vp_updL (vp_updL (vp_updL e 0 (((e 0) + (e 1)) + uu.toInt64)) 2 ((((e 2) + (2 * (e 3))) + (e 4)) + ((s 5).toInt64))) 3 ((e 3) + (e 4))) hx hb hK hP hD hS 2 2 rfl rfl (rfl) (by decide) (by decide) dX4_predicts_155 (fun H locs hP hD hS => ?_)
                    have hP : va_P D vwCl ([(h, .inr (4, [.ref sa, .ref pa, .int z, .ref er, .ref na, .long x1, .long x2, .long x3, .long hs])), (sa, .inl (cI, 71, .inl s)), (na, .inl (cJ, 5, .inr (.inl (vp_updL (vp_updL (vp_updL (vp_updL e 0 (((e 0) + (e 1)) + uu.toInt64)) 2 ((((e 2) + (2 * (e 3))) + (e 4)) + ((s 5).toInt64))) 3 ((e 3) + (e 4))) 4 ((e 4) + ww.toInt64)))))]) H := hP
                    have hD : va_D A ([(h, .inr (4, [.ref sa, .ref pa, .int z, .ref er, .ref na, .long x1, .long x2, .long x3, .long hs])), (sa, .inl (cI, 71, .inl s)), (na, .inl (cJ, 5, .inr (.inl (vp_updL (vp_updL (vp_updL (vp_updL e 0 (((e 0) + (e 1)) + uu.toInt64)) 2 ((((e 2) + (2 * (e 3))) + (e 4)) + ((s 5).toInt64))) 3 ((e 3) + (e 4))) 4 ((e 4) + ww.toInt64)))))]) := hD
                    obtain ⟨hP, hD⟩ := kp_arrJ hP hD 2 rfl (ad_e e uu.toInt64 (s 5).toInt64 ww.toInt64) (ad_e_y hc ((tk_pos_p (Int64.not_lt.mpr c_1)).symm))
                    have hP : va_P D vwCl ([(h, .inr (4, [.ref sa, .ref pa, .int z, .ref er, .ref na, .long x1, .long x2, .long x3, .long hs])), (sa, .inl (cI, 71, .inl s)), (na, .inl (cJ, 5, .inr (.inl (ad_e e uu.toInt64 (s 5).toInt64 ww.toInt64))))]) H := hP
                    have hD : va_D A ([(h, .inr (4, [.ref sa, .ref pa, .int z, .ref er, .ref na, .long x1, .long x2, .long x3, .long hs])), (sa, .inl (cI, 71, .inl s)), (na, .inl (cJ, 5, .inr (.inl (ad_e e uu.toInt64 (s 5).toInt64 ww.toInt64))))]) := hD
                    refine lv_iconst (v := 1) hx hb dX4_predicts_156 (by decide) ?_
                    exact W.zret (v := 1) hx hb hr rfl (fun zt ht hW => ⟨⟨1, ad_e e uu.toInt64 (s 5).toInt64 ww.toInt64, rfl, Or.inl ⟨by rw [ad_ok_y hv hc ((tk_pos_p (Int64.not_lt.mpr c_1)).symm), p_2, p_4, p_6, p_8]; rfl, rfl, rfl⟩, KB.of hAe (by rw [ht]; exact hP) hD⟩, hS.F ht⟩) hS.2.2 dX4_predicts_157
                  · exact absurd c_9 (by decide)
                · have hP : va_P D vwCl ([(h, .inr (4, [.ref sa, .ref pa, .int z, .ref er, .ref na, .long x1, .long x2, .long x3, .long hs])), (sa, .inl (cI, 71, .inl s)), (na, .inl (cJ, 5, .inr (.inl e)))]) H := hP
                  have hD : va_D A ([(h, .inr (4, [.ref sa, .ref pa, .int z, .ref er, .ref na, .long x1, .long x2, .long x3, .long hs])), (sa, .inl (cI, 71, .inl s)), (na, .inl (cJ, 5, .inr (.inl e)))]) := hD
                  refine lv_if_ne (tgt := 125) hx hb dX4_predicts_120 (by decide) (fun c_10 => ?_) (fun c_10 => ?_)
                  · exact absurd c_10 (by decide)
                  · skip
                    refine lv_iconst (v := 0) hx hb dX4_predicts_123 (by decide) ?_
                    exact W.zret (v := 0) hx hb hr rfl (fun zt ht hW => ⟨⟨0, e, rfl, Or.inr ⟨by rw [ad_ok_y hv hc ((tk_pos_p (Int64.not_lt.mpr c_1)).symm), p_2, p_4, p_6, p_8]; rfl, rfl, rfl⟩, KB.of hAe (by rw [ht]; exact hP) hD⟩, hS.F ht⟩) hS.2.2 dX4_predicts_124
            · have hP : va_P D vwCl ([(h, .inr (4, [.ref sa, .ref pa, .int z, .ref er, .ref na, .long x1, .long x2, .long x3, .long hs])), (sa, .inl (cI, 71, .inl s)), (na, .inl (cJ, 5, .inr (.inl e)))]) H := hP
              have hD : va_D A ([(h, .inr (4, [.ref sa, .ref pa, .int z, .ref er, .ref na, .long x1, .long x2, .long x3, .long hs])), (sa, .inl (cI, 71, .inl s)), (na, .inl (cJ, 5, .inr (.inl e)))]) := hD
              refine lv_if_eq (tgt := 123) hx hb dX4_predicts_112 (by decide) (fun c_11 => ?_) (fun c_11 => ?_)
              · skip
                refine lv_iconst (v := 0) hx hb dX4_predicts_123 (by decide) ?_
                exact W.zret (v := 0) hx hb hr rfl (fun zt ht hW => ⟨⟨0, e, rfl, Or.inr ⟨by rw [ad_ok_y hv hc ((tk_pos_p (Int64.not_lt.mpr c_1)).symm), p_2, p_4, p_6]; rfl, rfl, rfl⟩, KB.of hAe (by rw [ht]; exact hP) hD⟩, hS.F ht⟩) hS.2.2 dX4_predicts_124
              · exact absurd c_11 (by decide)
        · have hP : va_P D vwCl ([(h, .inr (4, [.ref sa, .ref pa, .int z, .ref er, .ref na, .long x1, .long x2, .long x3, .long hs])), (sa, .inl (cI, 71, .inl s)), (na, .inl (cJ, 5, .inr (.inl e)))]) H := hP
          have hD : va_D A ([(h, .inr (4, [.ref sa, .ref pa, .int z, .ref er, .ref na, .long x1, .long x2, .long x3, .long hs])), (sa, .inl (cI, 71, .inl s)), (na, .inl (cJ, 5, .inr (.inl e)))]) := hD
          refine lv_if_eq (tgt := 123) hx hb dX4_predicts_104 (by decide) (fun c_12 => ?_) (fun c_12 => ?_)
          · skip
            refine lv_iconst (v := 0) hx hb dX4_predicts_123 (by decide) ?_
            exact W.zret (v := 0) hx hb hr rfl (fun zt ht hW => ⟨⟨0, e, rfl, Or.inr ⟨by rw [ad_ok_y hv hc ((tk_pos_p (Int64.not_lt.mpr c_1)).symm), p_2, p_4]; rfl, rfl, rfl⟩, KB.of hAe (by rw [ht]; exact hP) hD⟩, hS.F ht⟩) hS.2.2 dX4_predicts_124
          · exact absurd c_12 (by decide)
    · have hP : va_P D vwCl ([(h, .inr (4, [.ref sa, .ref pa, .int z, .ref er, .ref na, .long x1, .long x2, .long x3, .long hs])), (sa, .inl (cI, 71, .inl s)), (na, .inl (cJ, 5, .inr (.inl e)))]) H := hP
      have hD : va_D A ([(h, .inr (4, [.ref sa, .ref pa, .int z, .ref er, .ref na, .long x1, .long x2, .long x3, .long hs])), (sa, .inl (cI, 71, .inl s)), (na, .inl (cJ, 5, .inr (.inl e)))]) := hD
      refine lv_if_eq (tgt := 123) hx hb dX4_predicts_96 (by decide) (fun c_13 => ?_) (fun c_13 => ?_)
      · skip
        refine lv_iconst (v := 0) hx hb dX4_predicts_123 (by decide) ?_
        exact W.zret (v := 0) hx hb hr rfl (fun zt ht hW => ⟨⟨0, e, rfl, Or.inr ⟨by rw [ad_ok_y hv hc ((tk_pos_p (Int64.not_lt.mpr c_1)).symm), p_2]; rfl, rfl, rfl⟩, KB.of hAe (by rw [ht]; exact hP) hD⟩, hS.F ht⟩) hS.2.2 dX4_predicts_124
      · exact absurd c_13 (by decide)
  · have c_1 := mt (lg_cmp_ge _ _).mpr c_1
    refine lv_lconst (v := 0) hx hb dX4_predicts_84 (by decide) ?_
    refine lv_goto (tgt := 90) hx hb dX4_predicts_85 (by decide) ?_
    refine lv_lstore (lv' := [(5, .long 0), (9, .long ((e 4) + ww.toInt64)), (7, .long ((e 3) + (e 4))), (3, .long (((e 0) + (e 1)) + uu.toInt64)), (0, .ref h), (1, .int uu), (2, .int ww)]) hx hb dX4_predicts_90 hl (by decide) rfl (fun ls hl => ?_)
    refine lv_lload_n hx hb dX4_predicts_92 rfl (lv_at hl 3 rfl) ?_
    refine kc_i (wc := []) (wr := [(h, .inr (4, [.ref sa, .ref pa, .int z, .ref er, .ref na, .long x1, .long x2, .long x3, .long hs])), (sa, .inl (cI, 71, .inl s)), (na, .inl (cJ, 5, .inr (.inl e)))]) (va_runS (As := [.long (((e 0) + (e 1)) + uu.toInt64)]) (rest := []) ⟨hx, hb, hml, hown, hts⟩ (k_X4_isIn l D cI cM cJ _ (((e 0) + (e 1)) + uu.toInt64)) (va_cwS 1 hts gX4_predicts_X4_isIn rfl rfl rfl (by decide +kernel) ⟨Nat.le_of_ble_eq_true rfl, Nat.le_of_ble_eq_true rfl⟩) (kp_preS (wc := []) (wr := [(h, .inr (4, [.ref sa, .ref pa, .int z, .ref er, .ref na, .long x1, .long x2, .long x3, .long hs])), (sa, .inl (cI, 71, .inl s)), (na, .inl (cJ, 5, .inr (.inl e)))]) hN hK hP hD) rfl rfl hl.1 rfl (lv_room (Nat.le_of_ble_eq_true rfl)) dX4_predicts_93 ⟨Nat.le_of_ble_eq_true rfl, Nat.le_of_ble_eq_true rfl⟩) hP hD hS hA (fun r_14 u_14 H locs p_14 hP hD hS => ?_)
    rcases p_14 with ⟨p_14, rfl⟩ | ⟨p_14, rfl⟩
    · have hP : va_P D vwCl ([(h, .inr (4, [.ref sa, .ref pa, .int z, .ref er, .ref na, .long x1, .long x2, .long x3, .long hs])), (sa, .inl (cI, 71, .inl s)), (na, .inl (cJ, 5, .inr (.inl e)))]) H := hP
      have hD : va_D A ([(h, .inr (4, [.ref sa, .ref pa, .int z, .ref er, .ref na, .long x1, .long x2, .long x3, .long hs])), (sa, .inl (cI, 71, .inl s)), (na, .inl (cJ, 5, .inr (.inl e)))]) := hD
      refine lv_if_eq (tgt := 123) hx hb dX4_predicts_96 (by decide) (fun c_15 => ?_) (fun c_15 => ?_)
      · exact absurd c_15 (by decide)
      · skip
        refine lv_lload hx hb dX4_predicts_99 (lv_at hl 0 rfl) ?_
        refine kc_i (wc := []) (wr := [(h, .inr (4, [.ref sa, .ref pa, .int z, .ref er, .ref na, .long x1, .long x2, .long x3, .long hs])), (sa, .inl (cI, 71, .inl s)), (na, .inl (cJ, 5, .inr (.inl e)))]) (va_runS (As := [.long 0]) (rest := []) ⟨hx, hb, hml, hown, hts⟩ (k_X4_isIn l D cI cM cJ _ 0) (va_cwS 1 hts gX4_predicts_X4_isIn rfl rfl rfl (by decide +kernel) ⟨Nat.le_of_ble_eq_true rfl, Nat.le_of_ble_eq_true rfl⟩) (kp_preS (wc := []) (wr := [(h, .inr (4, [.ref sa, .ref pa, .int z, .ref er, .ref na, .long x1, .long x2, .long x3, .long hs])), (sa, .inl (cI, 71, .inl s)), (na, .inl (cJ, 5, .inr (.inl e)))]) hN hK hP hD) rfl rfl hl.1 rfl (lv_room (Nat.le_of_ble_eq_true rfl)) dX4_predicts_101 ⟨Nat.le_of_ble_eq_true rfl, Nat.le_of_ble_eq_true rfl⟩) hP hD hS hA (fun r_16 u_16 H locs p_16 hP hD hS => ?_)
        rcases p_16 with ⟨p_16, rfl⟩ | ⟨p_16, rfl⟩
        · have hP : va_P D vwCl ([(h, .inr (4, [.ref sa, .ref pa, .int z, .ref er, .ref na, .long x1, .long x2, .long x3, .long hs])), (sa, .inl (cI, 71, .inl s)), (na, .inl (cJ, 5, .inr (.inl e)))]) H := hP
          have hD : va_D A ([(h, .inr (4, [.ref sa, .ref pa, .int z, .ref er, .ref na, .long x1, .long x2, .long x3, .long hs])), (sa, .inl (cI, 71, .inl s)), (na, .inl (cJ, 5, .inr (.inl e)))]) := hD
          refine lv_if_eq (tgt := 123) hx hb dX4_predicts_104 (by decide) (fun c_17 => ?_) (fun c_17 => ?_)
          · exact absurd c_17 (by decide)
          · skip
            refine lv_lload hx hb dX4_predicts_107 (lv_at hl 2 rfl) ?_
            refine kc_i (wc := []) (wr := [(h, .inr (4, [.ref sa, .ref pa, .int z, .ref er, .ref na, .long x1, .long x2, .long x3, .long hs])), (sa, .inl (cI, 71, .inl s)), (na, .inl (cJ, 5, .inr (.inl e)))]) (va_runS (As := [.long ((e 3) + (e 4))]) (rest := []) ⟨hx, hb, hml, hown, hts⟩ (k_X4_isIn l D cI cM cJ _ ((e 3) + (e 4))) (va_cwS 1 hts gX4_predicts_X4_isIn rfl rfl rfl (by decide +kernel) ⟨Nat.le_of_ble_eq_true rfl, Nat.le_of_ble_eq_true rfl⟩) (kp_preS (wc := []) (wr := [(h, .inr (4, [.ref sa, .ref pa, .int z, .ref er, .ref na, .long x1, .long x2, .long x3, .long hs])), (sa, .inl (cI, 71, .inl s)), (na, .inl (cJ, 5, .inr (.inl e)))]) hN hK hP hD) rfl rfl hl.1 rfl (lv_room (Nat.le_of_ble_eq_true rfl)) dX4_predicts_109 ⟨Nat.le_of_ble_eq_true rfl, Nat.le_of_ble_eq_true rfl⟩) hP hD hS hA (fun r_18 u_18 H locs p_18 hP hD hS => ?_)
            rcases p_18 with ⟨p_18, rfl⟩ | ⟨p_18, rfl⟩
            · have hP : va_P D vwCl ([(h, .inr (4, [.ref sa, .ref pa, .int z, .ref er, .ref na, .long x1, .long x2, .long x3, .long hs])), (sa, .inl (cI, 71, .inl s)), (na, .inl (cJ, 5, .inr (.inl e)))]) H := hP
              have hD : va_D A ([(h, .inr (4, [.ref sa, .ref pa, .int z, .ref er, .ref na, .long x1, .long x2, .long x3, .long hs])), (sa, .inl (cI, 71, .inl s)), (na, .inl (cJ, 5, .inr (.inl e)))]) := hD
              refine lv_if_eq (tgt := 123) hx hb dX4_predicts_112 (by decide) (fun c_19 => ?_) (fun c_19 => ?_)
              · exact absurd c_19 (by decide)
              · skip
                refine lv_lload hx hb dX4_predicts_115 (lv_at hl 1 rfl) ?_
                refine kc_i (wc := []) (wr := [(h, .inr (4, [.ref sa, .ref pa, .int z, .ref er, .ref na, .long x1, .long x2, .long x3, .long hs])), (sa, .inl (cI, 71, .inl s)), (na, .inl (cJ, 5, .inr (.inl e)))]) (va_runS (As := [.long ((e 4) + ww.toInt64)]) (rest := []) ⟨hx, hb, hml, hown, hts⟩ (k_X4_isIn l D cI cM cJ _ ((e 4) + ww.toInt64)) (va_cwS 1 hts gX4_predicts_X4_isIn rfl rfl rfl (by decide +kernel) ⟨Nat.le_of_ble_eq_true rfl, Nat.le_of_ble_eq_true rfl⟩) (kp_preS (wc := []) (wr := [(h, .inr (4, [.ref sa, .ref pa, .int z, .ref er, .ref na, .long x1, .long x2, .long x3, .long hs])), (sa, .inl (cI, 71, .inl s)), (na, .inl (cJ, 5, .inr (.inl e)))]) hN hK hP hD) rfl rfl hl.1 rfl (lv_room (Nat.le_of_ble_eq_true rfl)) dX4_predicts_117 ⟨Nat.le_of_ble_eq_true rfl, Nat.le_of_ble_eq_true rfl⟩) hP hD hS hA (fun r_20 u_20 H locs p_20 hP hD hS => ?_)
                rcases p_20 with ⟨p_20, rfl⟩ | ⟨p_20, rfl⟩
                · have hP : va_P D vwCl ([(h, .inr (4, [.ref sa, .ref pa, .int z, .ref er, .ref na, .long x1, .long x2, .long x3, .long hs])), (sa, .inl (cI, 71, .inl s)), (na, .inl (cJ, 5, .inr (.inl e)))]) H := hP
                  have hD : va_D A ([(h, .inr (4, [.ref sa, .ref pa, .int z, .ref er, .ref na, .long x1, .long x2, .long x3, .long hs])), (sa, .inl (cI, 71, .inl s)), (na, .inl (cJ, 5, .inr (.inl e)))]) := hD
                  refine lv_if_ne (tgt := 125) hx hb dX4_predicts_120 (by decide) (fun c_21 => ?_) (fun c_21 => ?_)
                  · skip
                    refine lv_aload_n hx hb dX4_predicts_125 rfl (lv_at hl 4 rfl) ?_
                    refine va_get (D := D) (ci := 4) (v := .ref na) (C := RX4) (T := TX4) (N := 9) hx hb hts izX4_predicts_4 hown hK hP 0 rfl rfl 4 (by decide) (hm 1 (.fieldLink RX4 19 "TankFilterModel" "now" "[J") rfl) (fun _ h9 => h9) rfl dX4_predicts_126 ?_
                    refine lv_iconst (v := 0) hx hb dX4_predicts_129 (by decide) ?_
                    refine lv_lload_n hx hb dX4_predicts_130 rfl (lv_at hl 3 rfl) ?_
                    refine ka_lst (D := D) (j := 0) (n := 5) (f := e) hx hb hK hP hD hS 2 2 rfl rfl (rfl) (by decide) (by decide) dX4_predicts_131 (fun H locs hP hD hS => ?_)
                    have hP : va_P D vwCl ([(h, .inr (4, [.ref sa, .ref pa, .int z, .ref er, .ref na, .long x1, .long x2, .long x3, .long hs])), (sa, .inl (cI, 71, .inl s)), (na, .inl (cJ, 5, .inr (.inl (vp_updL e 0 (((e 0) + (e 1)) + uu.toInt64)))))]) H := hP
                    have hD : va_D A ([(h, .inr (4, [.ref sa, .ref pa, .int z, .ref er, .ref na, .long x1, .long x2, .long x3, .long hs])), (sa, .inl (cI, 71, .inl s)), (na, .inl (cJ, 5, .inr (.inl (vp_updL e 0 (((e 0) + (e 1)) + uu.toInt64)))))]) := hD
                    refine lv_aload_n hx hb dX4_predicts_132 rfl (lv_at hl 4 rfl) ?_
                    refine va_get (D := D) (ci := 4) (v := .ref na) (C := RX4) (T := TX4) (N := 9) hx hb hts izX4_predicts_4 hown hK hP 0 rfl rfl 4 (by decide) (hm 1 (.fieldLink RX4 19 "TankFilterModel" "now" "[J") rfl) (fun _ h9 => h9) rfl dX4_predicts_133 ?_
                    refine lv_iconst (v := 2) hx hb dX4_predicts_136 (by decide) ?_
                    refine lv_lload hx hb dX4_predicts_137 (lv_at hl 0 rfl) ?_
                    refine ka_lst (D := D) (j := 2) (n := 5) (f := vp_updL e 0 (((e 0) + (e 1)) + uu.toInt64)) hx hb hK hP hD hS 2 2 rfl rfl (rfl) (by decide) (by decide) dX4_predicts_139 (fun H locs hP hD hS => ?_)
                    have hP : va_P D vwCl ([(h, .inr (4, [.ref sa, .ref pa, .int z, .ref er, .ref na, .long x1, .long x2, .long x3, .long hs])), (sa, .inl (cI, 71, .inl s)), (na, .inl (cJ, 5, .inr (.inl (vp_updL (vp_updL e 0 (((e 0) + (e 1)) + uu.toInt64)) 2 0))))]) H := hP
                    have hD : va_D A ([(h, .inr (4, [.ref sa, .ref pa, .int z, .ref er, .ref na, .long x1, .long x2, .long x3, .long hs])), (sa, .inl (cI, 71, .inl s)), (na, .inl (cJ, 5, .inr (.inl (vp_updL (vp_updL e 0 (((e 0) + (e 1)) + uu.toInt64)) 2 0))))]) := hD
                    refine lv_aload_n hx hb dX4_predicts_140 rfl (lv_at hl 4 rfl) ?_
                    refine va_get (D := D) (ci := 4) (v := .ref na) (C := RX4) (T := TX4) (N := 9) hx hb hts izX4_predicts_4 hown hK hP 0 rfl rfl 4 (by decide) (hm 1 (.fieldLink RX4 19 "TankFilterModel" "now" "[J") rfl) (fun _ h9 => h9) rfl dX4_predicts_141 ?_
                    refine lv_iconst (v := 3) hx hb dX4_predicts_144 (by decide) ?_
                    refine lv_lload hx hb dX4_predicts_145 (lv_at hl 2 rfl) ?_
                    refine ka_lst (D := D) (j := 3) (n := 5) (f := vp_updL (vp_updL e 0 (((e 0) + (e 1)) + uu.toInt64)) 2 0) hx hb hK hP hD hS 2 2 rfl rfl (rfl) (by decide) (by decide) dX4_predicts_147 (fun H locs hP hD hS => ?_)
                    have hP : va_P D vwCl ([(h, .inr (4, [.ref sa, .ref pa, .int z, .ref er, .ref na, .long x1, .long x2, .long x3, .long hs])), (sa, .inl (cI, 71, .inl s)), (na, .inl (cJ, 5, .inr (.inl (vp_updL (vp_updL (vp_updL e 0 (((e 0) + (e 1)) + uu.toInt64)) 2 0) 3 ((e 3) + (e 4))))))]) H := hP
                    have hD : va_D A ([(h, .inr (4, [.ref sa, .ref pa, .int z, .ref er, .ref na, .long x1, .long x2, .long x3, .long hs])), (sa, .inl (cI, 71, .inl s)), (na, .inl (cJ, 5, .inr (.inl (vp_updL (vp_updL (vp_updL e 0 (((e 0) + (e 1)) + uu.toInt64)) 2 0) 3 ((e 3) + (e 4))))))]) := hD
                    refine lv_aload_n hx hb dX4_predicts_148 rfl (lv_at hl 4 rfl) ?_
                    refine va_get (D := D) (ci := 4) (v := .ref na) (C := RX4) (T := TX4) (N := 9) hx hb hts izX4_predicts_4 hown hK hP 0 rfl rfl 4 (by decide) (hm 1 (.fieldLink RX4 19 "TankFilterModel" "now" "[J") rfl) (fun _ h9 => h9) rfl dX4_predicts_149 ?_
                    refine lv_iconst (v := 4) hx hb dX4_predicts_152 (by decide) ?_
                    refine lv_lload hx hb dX4_predicts_153 (lv_at hl 1 rfl) ?_
                    refine ka_lst (D := D) (j := 4) (n := 5) (f := vp_updL (vp_updL (vp_updL e 0 (((e 0) + (e 1)) + uu.toInt64)) 2 0) 3 ((e 3) + (e 4))) hx hb hK hP hD hS 2 2 rfl rfl (rfl) (by decide) (by decide) dX4_predicts_155 (fun H locs hP hD hS => ?_)
                    have hP : va_P D vwCl ([(h, .inr (4, [.ref sa, .ref pa, .int z, .ref er, .ref na, .long x1, .long x2, .long x3, .long hs])), (sa, .inl (cI, 71, .inl s)), (na, .inl (cJ, 5, .inr (.inl (vp_updL (vp_updL (vp_updL (vp_updL e 0 (((e 0) + (e 1)) + uu.toInt64)) 2 0) 3 ((e 3) + (e 4))) 4 ((e 4) + ww.toInt64)))))]) H := hP
                    have hD : va_D A ([(h, .inr (4, [.ref sa, .ref pa, .int z, .ref er, .ref na, .long x1, .long x2, .long x3, .long hs])), (sa, .inl (cI, 71, .inl s)), (na, .inl (cJ, 5, .inr (.inl (vp_updL (vp_updL (vp_updL (vp_updL e 0 (((e 0) + (e 1)) + uu.toInt64)) 2 0) 3 ((e 3) + (e 4))) 4 ((e 4) + ww.toInt64)))))]) := hD
                    obtain ⟨hP, hD⟩ := kp_arrJ hP hD 2 rfl (ad_e e uu.toInt64 (s 5).toInt64 ww.toInt64) (ad_e_y hc ((tk_pos_n (Int64.not_le.mp c_1)).symm))
                    have hP : va_P D vwCl ([(h, .inr (4, [.ref sa, .ref pa, .int z, .ref er, .ref na, .long x1, .long x2, .long x3, .long hs])), (sa, .inl (cI, 71, .inl s)), (na, .inl (cJ, 5, .inr (.inl (ad_e e uu.toInt64 (s 5).toInt64 ww.toInt64))))]) H := hP
                    have hD : va_D A ([(h, .inr (4, [.ref sa, .ref pa, .int z, .ref er, .ref na, .long x1, .long x2, .long x3, .long hs])), (sa, .inl (cI, 71, .inl s)), (na, .inl (cJ, 5, .inr (.inl (ad_e e uu.toInt64 (s 5).toInt64 ww.toInt64))))]) := hD
                    refine lv_iconst (v := 1) hx hb dX4_predicts_156 (by decide) ?_
                    exact W.zret (v := 1) hx hb hr rfl (fun zt ht hW => ⟨⟨1, ad_e e uu.toInt64 (s 5).toInt64 ww.toInt64, rfl, Or.inl ⟨by rw [ad_ok_y hv hc ((tk_pos_n (Int64.not_le.mp c_1)).symm), p_14, p_16, p_18, p_20]; rfl, rfl, rfl⟩, KB.of hAe (by rw [ht]; exact hP) hD⟩, hS.F ht⟩) hS.2.2 dX4_predicts_157
                  · exact absurd c_21 (by decide)
                · have hP : va_P D vwCl ([(h, .inr (4, [.ref sa, .ref pa, .int z, .ref er, .ref na, .long x1, .long x2, .long x3, .long hs])), (sa, .inl (cI, 71, .inl s)), (na, .inl (cJ, 5, .inr (.inl e)))]) H := hP
                  have hD : va_D A ([(h, .inr (4, [.ref sa, .ref pa, .int z, .ref er, .ref na, .long x1, .long x2, .long x3, .long hs])), (sa, .inl (cI, 71, .inl s)), (na, .inl (cJ, 5, .inr (.inl e)))]) := hD
                  refine lv_if_ne (tgt := 125) hx hb dX4_predicts_120 (by decide) (fun c_22 => ?_) (fun c_22 => ?_)
                  · exact absurd c_22 (by decide)
                  · skip
                    refine lv_iconst (v := 0) hx hb dX4_predicts_123 (by decide) ?_
                    exact W.zret (v := 0) hx hb hr rfl (fun zt ht hW => ⟨⟨0, e, rfl, Or.inr ⟨by rw [ad_ok_y hv hc ((tk_pos_n (Int64.not_le.mp c_1)).symm), p_14, p_16, p_18, p_20]; rfl, rfl, rfl⟩, KB.of hAe (by rw [ht]; exact hP) hD⟩, hS.F ht⟩) hS.2.2 dX4_predicts_124
            · have hP : va_P D vwCl ([(h, .inr (4, [.ref sa, .ref pa, .int z, .ref er, .ref na, .long x1, .long x2, .long x3, .long hs])), (sa, .inl (cI, 71, .inl s)), (na, .inl (cJ, 5, .inr (.inl e)))]) H := hP
              have hD : va_D A ([(h, .inr (4, [.ref sa, .ref pa, .int z, .ref er, .ref na, .long x1, .long x2, .long x3, .long hs])), (sa, .inl (cI, 71, .inl s)), (na, .inl (cJ, 5, .inr (.inl e)))]) := hD
              refine lv_if_eq (tgt := 123) hx hb dX4_predicts_112 (by decide) (fun c_23 => ?_) (fun c_23 => ?_)
              · skip
                refine lv_iconst (v := 0) hx hb dX4_predicts_123 (by decide) ?_
                exact W.zret (v := 0) hx hb hr rfl (fun zt ht hW => ⟨⟨0, e, rfl, Or.inr ⟨by rw [ad_ok_y hv hc ((tk_pos_n (Int64.not_le.mp c_1)).symm), p_14, p_16, p_18]; rfl, rfl, rfl⟩, KB.of hAe (by rw [ht]; exact hP) hD⟩, hS.F ht⟩) hS.2.2 dX4_predicts_124
              · exact absurd c_23 (by decide)
        · have hP : va_P D vwCl ([(h, .inr (4, [.ref sa, .ref pa, .int z, .ref er, .ref na, .long x1, .long x2, .long x3, .long hs])), (sa, .inl (cI, 71, .inl s)), (na, .inl (cJ, 5, .inr (.inl e)))]) H := hP
          have hD : va_D A ([(h, .inr (4, [.ref sa, .ref pa, .int z, .ref er, .ref na, .long x1, .long x2, .long x3, .long hs])), (sa, .inl (cI, 71, .inl s)), (na, .inl (cJ, 5, .inr (.inl e)))]) := hD
          refine lv_if_eq (tgt := 123) hx hb dX4_predicts_104 (by decide) (fun c_24 => ?_) (fun c_24 => ?_)
          · skip
            refine lv_iconst (v := 0) hx hb dX4_predicts_123 (by decide) ?_
            exact W.zret (v := 0) hx hb hr rfl (fun zt ht hW => ⟨⟨0, e, rfl, Or.inr ⟨by rw [ad_ok_y hv hc ((tk_pos_n (Int64.not_le.mp c_1)).symm), p_14, p_16]; rfl, rfl, rfl⟩, KB.of hAe (by rw [ht]; exact hP) hD⟩, hS.F ht⟩) hS.2.2 dX4_predicts_124
          · exact absurd c_24 (by decide)
    · have hP : va_P D vwCl ([(h, .inr (4, [.ref sa, .ref pa, .int z, .ref er, .ref na, .long x1, .long x2, .long x3, .long hs])), (sa, .inl (cI, 71, .inl s)), (na, .inl (cJ, 5, .inr (.inl e)))]) H := hP
      have hD : va_D A ([(h, .inr (4, [.ref sa, .ref pa, .int z, .ref er, .ref na, .long x1, .long x2, .long x3, .long hs])), (sa, .inl (cI, 71, .inl s)), (na, .inl (cJ, 5, .inr (.inl e)))]) := hD
      refine lv_if_eq (tgt := 123) hx hb dX4_predicts_96 (by decide) (fun c_25 => ?_) (fun c_25 => ?_)
      · skip
        refine lv_iconst (v := 0) hx hb dX4_predicts_123 (by decide) ?_
        exact W.zret (v := 0) hx hb hr rfl (fun zt ht hW => ⟨⟨0, e, rfl, Or.inr ⟨by rw [ad_ok_y hv hc ((tk_pos_n (Int64.not_le.mp c_1)).symm), p_14]; rfl, rfl, rfl⟩, KB.of hAe (by rw [ht]; exact hP) hD⟩, hS.F ht⟩) hS.2.2 dX4_predicts_124
      · exact absurd c_25 (by decide)
