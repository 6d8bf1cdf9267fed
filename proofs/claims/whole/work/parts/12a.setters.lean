abbrev tk_Y : Type := Nat × (Nat → Int32) × (Nat → Int32) × (Nat → Int32)
def tk_yl (Y : tk_Y) (j : Nat) : tk_Y := (Y.1, Y.2.1, Y.2.2.1, upd Y.2.2.2 j (Y.2.2.2 j + 1))
def tk_nv (Y : tk_Y) (s : Nat → Int32) : tk_Y := (tk_np Y.1, s, tk_nP Y.2.2.1 Y.1 Y.2.1, Y.2.2.2)

theorem izX4_level_4 : ∀ w ∈ wsX40, w ∈ wsX4_level := fun _ h => List.mem_cons_of_mem _ (List.mem_append_right _ h)
set_option maxHeartbeats 4000000 in
set_option maxRecDepth 100000 in
/-- level -/
theorem k_X4_level (l : Launch) (D : va_G) (cI cM cJ : ClassId) (sz : Nat) (h sa pa er na : Nat) (p : Nat) (s past err : Nat → Int32) (e : Nat → Int64) (hs : Int64) : Met l yX4_level wsX4_level ({ frames := 0, cells := 0, slots := 0, locals := 0 }) (va_Pc [.ref h] (KP D (tk_T cI cM cJ) ([(h, .inr (4, [.ref sa, .ref pa, .int (nI p), .ref er, .ref na, .long (e 5), .long (e 6), .long (e 7), .long hs])), (sa, .inl (cI, 71, .inl s)), (pa, .inl (cI, 284, .inl past)), (er, .inl (cI, 3, .inl err)), (na, .inl (cJ, 5, .inr (.inl e)))]) sz)) (va_Qi (fun (r : Int32) (u : Unit) => r = s 0) (fun u zt => KB D ([(h, .inr (4, [.ref sa, .ref pa, .int (nI p), .ref er, .ref na, .long (e 5), .long (e 6), .long (e 7), .long hs])), (sa, .inl (cI, 71, .inl s)), (pa, .inl (cI, 284, .inl past)), (er, .inl (cI, 3, .inl err)), (na, .inl (cJ, 5, .inr (.inl e)))]) ([(h, .inr (4, [.ref sa, .ref pa, .int (nI p), .ref er, .ref na, .long (e 5), .long (e 6), .long (e 7), .long hs])), (sa, .inl (cI, 71, .inl s)), (pa, .inl (cI, 284, .inl past)), (er, .inl (cI, 3, .inl err)), (na, .inl (cJ, 5, .inr (.inl e)))]) sz zt) (va_A ([(h, .inr (4, [.ref sa, .ref pa, .int (nI p), .ref er, .ref na, .long (e 5), .long (e 6), .long (e 7), .long hs])), (sa, .inl (cI, 71, .inl s)), (pa, .inl (cI, 284, .inl past)), (er, .inl (cI, 3, .inl err)), (na, .inl (cJ, 5, .inr (.inl e)))]) sz)) 0 0 (va_A ([(h, .inr (4, [.ref sa, .ref pa, .int (nI p), .ref er, .ref na, .long (e 5), .long (e 6), .long (e 7), .long hs])), (sa, .inl (cI, 71, .inl s)), (pa, .inl (cI, 284, .inl past)), (er, .inl (cI, 3, .inl err)), (na, .inl (cJ, 5, .inr (.inl e)))]) sz) := by
  refine Met.ofW (cc := cX4_level) (maxL := 1) (ret := (some .int)) (by decide) rfl ?_
  intro zp ze zs zm zargs zbelow zmeth zc zs1 B hml hv
  obtain ⟨rfl, hsz, hP, hK, hD0, hN⟩ := hv
  have hx := B.exec
  have hb := B.bytes
  have hr := B.returns
  have hts := atoms_spec (ws := wsX4_level) B.pre
  have hm : ∀ (i : Nat) (w : Cond), wsX4_level[i]? = some w → w.before _ zs = true := fun i w h => hts w (List.mem_of_getElem? h)
  have hown : zs.vm.findClass RX4 = some zm.cls := findClass_of_methodNamed B.named
  have hlocks := B.notSynchronized
  subst hsz
  have hD := hD0.self (sz := zs.heap.size)
  generalize hAe : va_A ([(h, .inr (4, [.ref sa, .ref pa, .int (nI p), .ref er, .ref na, .long (e 5), .long (e 6), .long (e 7), .long hs])), (sa, .inl (cI, 71, .inl s)), (pa, .inl (cI, 284, .inl past)), (er, .inl (cI, 3, .inl err)), (na, .inl (cJ, 5, .inr (.inl e)))]) zs.heap.size = A at hD ⊢
  have hA : ∀ q : Nat, zs.heap.size ≤ q → A q := fun q h => by rw [← hAe]; exact Or.inr h
  have hS : va_S A zs.heap zs.heap [] := va_S.rf
  have hP : va_P D vwCl ([(h, .inr (4, [.ref sa, .ref pa, .int (nI p), .ref er, .ref na, .long (e 5), .long (e 6), .long (e 7), .long hs])), (sa, .inl (cI, 71, .inl s)), (pa, .inl (cI, 284, .inl past)), (er, .inl (cI, 3, .inl err)), (na, .inl (cJ, 5, .inr (.inl e)))]) zs.heap := hP
  have hl := lv_entry ([.ref h]) (n := 1) (Nat.le_of_ble_eq_true rfl)
  rw [lg_entry_eq]
  generalize (lg_sl ([.ref h]) ++ List.replicate (1 - (lg_sl ([.ref h])).length) Slot.unset).toArray = ls at hl ⊢
  have hl : lv_has ls 1 [(0, .ref h)] := hl
  refine lv_aload_n hx hb dX4_level_0 rfl (lv_at hl 0 rfl) ?_
  refine va_get (D := D) (ci := 4) (v := .ref sa) (C := RX4) (T := TX4) (N := 9) hx hb hts izX4_level_4 hown hK hP 0 rfl rfl 0 (by decide) (hm 1 (.fieldLink RX4 7 "TankFilterModel" "s" "[I") rfl) (fun _ h9 => h9) rfl dX4_level_1 ?_
  refine lv_iconst (v := 0) hx hb dX4_level_4 (by decide) ?_
  refine ka_ild (D := D) (j := 0) (n := 71) (f := s) hx hb hK hP 1 0 rfl rfl (rfl) (by decide) (by decide) dX4_level_5 ?_
  exact W.iret (v := s 0) hx hb hr (fun zt ht hW => ⟨⟨s 0, (), rfl, rfl, KB.of hAe (by rw [ht]; exact hP) hD⟩, hS.F ht⟩) hS.2.2 dX4_level_6

theorem izX4_flow_4 : ∀ w ∈ wsX40, w ∈ wsX4_flow := fun _ h => List.mem_cons_of_mem _ (List.mem_append_right _ h)
set_option maxHeartbeats 4000000 in
set_option maxRecDepth 100000 in
/-- flow -/
theorem k_X4_flow (l : Launch) (D : va_G) (cI cM cJ : ClassId) (sz : Nat) (h sa pa er na : Nat) (p : Nat) (s past err : Nat → Int32) (e : Nat → Int64) (hs : Int64) : Met l yX4_flow wsX4_flow ({ frames := 0, cells := 0, slots := 0, locals := 0 }) (va_Pc [.ref h] (KP D (tk_T cI cM cJ) ([(h, .inr (4, [.ref sa, .ref pa, .int (nI p), .ref er, .ref na, .long (e 5), .long (e 6), .long (e 7), .long hs])), (sa, .inl (cI, 71, .inl s)), (pa, .inl (cI, 284, .inl past)), (er, .inl (cI, 3, .inl err)), (na, .inl (cJ, 5, .inr (.inl e)))]) sz)) (va_Qi (fun (r : Int32) (u : Unit) => r = s 1) (fun u zt => KB D ([(h, .inr (4, [.ref sa, .ref pa, .int (nI p), .ref er, .ref na, .long (e 5), .long (e 6), .long (e 7), .long hs])), (sa, .inl (cI, 71, .inl s)), (pa, .inl (cI, 284, .inl past)), (er, .inl (cI, 3, .inl err)), (na, .inl (cJ, 5, .inr (.inl e)))]) ([(h, .inr (4, [.ref sa, .ref pa, .int (nI p), .ref er, .ref na, .long (e 5), .long (e 6), .long (e 7), .long hs])), (sa, .inl (cI, 71, .inl s)), (pa, .inl (cI, 284, .inl past)), (er, .inl (cI, 3, .inl err)), (na, .inl (cJ, 5, .inr (.inl e)))]) sz zt) (va_A ([(h, .inr (4, [.ref sa, .ref pa, .int (nI p), .ref er, .ref na, .long (e 5), .long (e 6), .long (e 7), .long hs])), (sa, .inl (cI, 71, .inl s)), (pa, .inl (cI, 284, .inl past)), (er, .inl (cI, 3, .inl err)), (na, .inl (cJ, 5, .inr (.inl e)))]) sz)) 0 0 (va_A ([(h, .inr (4, [.ref sa, .ref pa, .int (nI p), .ref er, .ref na, .long (e 5), .long (e 6), .long (e 7), .long hs])), (sa, .inl (cI, 71, .inl s)), (pa, .inl (cI, 284, .inl past)), (er, .inl (cI, 3, .inl err)), (na, .inl (cJ, 5, .inr (.inl e)))]) sz) := by
  refine Met.ofW (cc := cX4_flow) (maxL := 1) (ret := (some .int)) (by decide) rfl ?_
  intro zp ze zs zm zargs zbelow zmeth zc zs1 B hml hv
  obtain ⟨rfl, hsz, hP, hK, hD0, hN⟩ := hv
  have hx := B.exec
  have hb := B.bytes
  have hr := B.returns
  have hts := atoms_spec (ws := wsX4_flow) B.pre
  have hm : ∀ (i : Nat) (w : Cond), wsX4_flow[i]? = some w → w.before _ zs = true := fun i w h => hts w (List.mem_of_getElem? h)
  have hown : zs.vm.findClass RX4 = some zm.cls := findClass_of_methodNamed B.named
  have hlocks := B.notSynchronized
  subst hsz
  have hD := hD0.self (sz := zs.heap.size)
  generalize hAe : va_A ([(h, .inr (4, [.ref sa, .ref pa, .int (nI p), .ref er, .ref na, .long (e 5), .long (e 6), .long (e 7), .long hs])), (sa, .inl (cI, 71, .inl s)), (pa, .inl (cI, 284, .inl past)), (er, .inl (cI, 3, .inl err)), (na, .inl (cJ, 5, .inr (.inl e)))]) zs.heap.size = A at hD ⊢
  have hA : ∀ q : Nat, zs.heap.size ≤ q → A q := fun q h => by rw [← hAe]; exact Or.inr h
  have hS : va_S A zs.heap zs.heap [] := va_S.rf
  have hP : va_P D vwCl ([(h, .inr (4, [.ref sa, .ref pa, .int (nI p), .ref er, .ref na, .long (e 5), .long (e 6), .long (e 7), .long hs])), (sa, .inl (cI, 71, .inl s)), (pa, .inl (cI, 284, .inl past)), (er, .inl (cI, 3, .inl err)), (na, .inl (cJ, 5, .inr (.inl e)))]) zs.heap := hP
  have hl := lv_entry ([.ref h]) (n := 1) (Nat.le_of_ble_eq_true rfl)
  rw [lg_entry_eq]
  generalize (lg_sl ([.ref h]) ++ List.replicate (1 - (lg_sl ([.ref h])).length) Slot.unset).toArray = ls at hl ⊢
  have hl : lv_has ls 1 [(0, .ref h)] := hl
  refine lv_aload_n hx hb dX4_flow_0 rfl (lv_at hl 0 rfl) ?_
  refine va_get (D := D) (ci := 4) (v := .ref sa) (C := RX4) (T := TX4) (N := 9) hx hb hts izX4_flow_4 hown hK hP 0 rfl rfl 0 (by decide) (hm 1 (.fieldLink RX4 7 "TankFilterModel" "s" "[I") rfl) (fun _ h9 => h9) rfl dX4_flow_1 ?_
  refine lv_iconst (v := 1) hx hb dX4_flow_4 (by decide) ?_
  refine ka_ild (D := D) (j := 1) (n := 71) (f := s) hx hb hK hP 1 0 rfl rfl (rfl) (by decide) (by decide) dX4_flow_5 ?_
  exact W.iret (v := s 1) hx hb hr (fun zt ht hW => ⟨⟨s 1, (), rfl, rfl, KB.of hAe (by rw [ht]; exact hP) hD⟩, hS.F ht⟩) hS.2.2 dX4_flow_6

theorem izX4_levelVariance_4 : ∀ w ∈ wsX40, w ∈ wsX4_levelVariance := fun _ h => List.mem_cons_of_mem _ (List.mem_append_right _ h)
set_option maxHeartbeats 4000000 in
set_option maxRecDepth 100000 in
/-- levelVariance -/
theorem k_X4_levelVariance (l : Launch) (D : va_G) (cI cM cJ : ClassId) (sz : Nat) (h sa pa er na : Nat) (p : Nat) (s past err : Nat → Int32) (e : Nat → Int64) (hs : Int64) : Met l yX4_levelVariance wsX4_levelVariance ({ frames := 0, cells := 0, slots := 0, locals := 0 }) (va_Pc [.ref h] (KP D (tk_T cI cM cJ) ([(h, .inr (4, [.ref sa, .ref pa, .int (nI p), .ref er, .ref na, .long (e 5), .long (e 6), .long (e 7), .long hs])), (sa, .inl (cI, 71, .inl s)), (pa, .inl (cI, 284, .inl past)), (er, .inl (cI, 3, .inl err)), (na, .inl (cJ, 5, .inr (.inl e)))]) sz)) (va_Qi (fun (r : Int32) (u : Unit) => r = s 2) (fun u zt => KB D ([(h, .inr (4, [.ref sa, .ref pa, .int (nI p), .ref er, .ref na, .long (e 5), .long (e 6), .long (e 7), .long hs])), (sa, .inl (cI, 71, .inl s)), (pa, .inl (cI, 284, .inl past)), (er, .inl (cI, 3, .inl err)), (na, .inl (cJ, 5, .inr (.inl e)))]) ([(h, .inr (4, [.ref sa, .ref pa, .int (nI p), .ref er, .ref na, .long (e 5), .long (e 6), .long (e 7), .long hs])), (sa, .inl (cI, 71, .inl s)), (pa, .inl (cI, 284, .inl past)), (er, .inl (cI, 3, .inl err)), (na, .inl (cJ, 5, .inr (.inl e)))]) sz zt) (va_A ([(h, .inr (4, [.ref sa, .ref pa, .int (nI p), .ref er, .ref na, .long (e 5), .long (e 6), .long (e 7), .long hs])), (sa, .inl (cI, 71, .inl s)), (pa, .inl (cI, 284, .inl past)), (er, .inl (cI, 3, .inl err)), (na, .inl (cJ, 5, .inr (.inl e)))]) sz)) 0 0 (va_A ([(h, .inr (4, [.ref sa, .ref pa, .int (nI p), .ref er, .ref na, .long (e 5), .long (e 6), .long (e 7), .long hs])), (sa, .inl (cI, 71, .inl s)), (pa, .inl (cI, 284, .inl past)), (er, .inl (cI, 3, .inl err)), (na, .inl (cJ, 5, .inr (.inl e)))]) sz) := by
  refine Met.ofW (cc := cX4_levelVariance) (maxL := 1) (ret := (some .int)) (by decide) rfl ?_
  intro zp ze zs zm zargs zbelow zmeth zc zs1 B hml hv
  obtain ⟨rfl, hsz, hP, hK, hD0, hN⟩ := hv
  have hx := B.exec
  have hb := B.bytes
  have hr := B.returns
  have hts := atoms_spec (ws := wsX4_levelVariance) B.pre
  have hm : ∀ (i : Nat) (w : Cond), wsX4_levelVariance[i]? = some w → w.before _ zs = true := fun i w h => hts w (List.mem_of_getElem? h)
  have hown : zs.vm.findClass RX4 = some zm.cls := findClass_of_methodNamed B.named
  have hlocks := B.notSynchronized
  subst hsz
  have hD := hD0.self (sz := zs.heap.size)
  generalize hAe : va_A ([(h, .inr (4, [.ref sa, .ref pa, .int (nI p), .ref er, .ref na, .long (e 5), .long (e 6), .long (e 7), .long hs])), (sa, .inl (cI, 71, .inl s)), (pa, .inl (cI, 284, .inl past)), (er, .inl (cI, 3, .inl err)), (na, .inl (cJ, 5, .inr (.inl e)))]) zs.heap.size = A at hD ⊢
  have hA : ∀ q : Nat, zs.heap.size ≤ q → A q := fun q h => by rw [← hAe]; exact Or.inr h
  have hS : va_S A zs.heap zs.heap [] := va_S.rf
  have hP : va_P D vwCl ([(h, .inr (4, [.ref sa, .ref pa, .int (nI p), .ref er, .ref na, .long (e 5), .long (e 6), .long (e 7), .long hs])), (sa, .inl (cI, 71, .inl s)), (pa, .inl (cI, 284, .inl past)), (er, .inl (cI, 3, .inl err)), (na, .inl (cJ, 5, .inr (.inl e)))]) zs.heap := hP
  have hl := lv_entry ([.ref h]) (n := 1) (Nat.le_of_ble_eq_true rfl)
  rw [lg_entry_eq]
  generalize (lg_sl ([.ref h]) ++ List.replicate (1 - (lg_sl ([.ref h])).length) Slot.unset).toArray = ls at hl ⊢
  have hl : lv_has ls 1 [(0, .ref h)] := hl
  refine lv_aload_n hx hb dX4_levelVariance_0 rfl (lv_at hl 0 rfl) ?_
  refine va_get (D := D) (ci := 4) (v := .ref sa) (C := RX4) (T := TX4) (N := 9) hx hb hts izX4_levelVariance_4 hown hK hP 0 rfl rfl 0 (by decide) (hm 1 (.fieldLink RX4 7 "TankFilterModel" "s" "[I") rfl) (fun _ h9 => h9) rfl dX4_levelVariance_1 ?_
  refine lv_iconst (v := 2) hx hb dX4_levelVariance_4 (by decide) ?_
  refine ka_ild (D := D) (j := 2) (n := 71) (f := s) hx hb hK hP 1 0 rfl rfl (rfl) (by decide) (by decide) dX4_levelVariance_5 ?_
  exact W.iret (v := s 2) hx hb hr (fun zt ht hW => ⟨⟨s 2, (), rfl, rfl, KB.of hAe (by rw [ht]; exact hP) hD⟩, hS.F ht⟩) hS.2.2 dX4_levelVariance_6

theorem izX4_covariance_4 : ∀ w ∈ wsX40, w ∈ wsX4_covariance := fun _ h => List.mem_cons_of_mem _ (List.mem_append_right _ h)
set_option maxHeartbeats 4000000 in
set_option maxRecDepth 100000 in
/-- covariance -/
theorem k_X4_covariance (l : Launch) (D : va_G) (cI cM cJ : ClassId) (sz : Nat) (h sa pa er na : Nat) (p : Nat) (s past err : Nat → Int32) (e : Nat → Int64) (hs : Int64) : Met l yX4_covariance wsX4_covariance ({ frames := 0, cells := 0, slots := 0, locals := 0 }) (va_Pc [.ref h] (KP D (tk_T cI cM cJ) ([(h, .inr (4, [.ref sa, .ref pa, .int (nI p), .ref er, .ref na, .long (e 5), .long (e 6), .long (e 7), .long hs])), (sa, .inl (cI, 71, .inl s)), (pa, .inl (cI, 284, .inl past)), (er, .inl (cI, 3, .inl err)), (na, .inl (cJ, 5, .inr (.inl e)))]) sz)) (va_Qi (fun (r : Int32) (u : Unit) => r = s 3) (fun u zt => KB D ([(h, .inr (4, [.ref sa, .ref pa, .int (nI p), .ref er, .ref na, .long (e 5), .long (e 6), .long (e 7), .long hs])), (sa, .inl (cI, 71, .inl s)), (pa, .inl (cI, 284, .inl past)), (er, .inl (cI, 3, .inl err)), (na, .inl (cJ, 5, .inr (.inl e)))]) ([(h, .inr (4, [.ref sa, .ref pa, .int (nI p), .ref er, .ref na, .long (e 5), .long (e 6), .long (e 7), .long hs])), (sa, .inl (cI, 71, .inl s)), (pa, .inl (cI, 284, .inl past)), (er, .inl (cI, 3, .inl err)), (na, .inl (cJ, 5, .inr (.inl e)))]) sz zt) (va_A ([(h, .inr (4, [.ref sa, .ref pa, .int (nI p), .ref er, .ref na, .long (e 5), .long (e 6), .long (e 7), .long hs])), (sa, .inl (cI, 71, .inl s)), (pa, .inl (cI, 284, .inl past)), (er, .inl (cI, 3, .inl err)), (na, .inl (cJ, 5, .inr (.inl e)))]) sz)) 0 0 (va_A ([(h, .inr (4, [.ref sa, .ref pa, .int (nI p), .ref er, .ref na, .long (e 5), .long (e 6), .long (e 7), .long hs])), (sa, .inl (cI, 71, .inl s)), (pa, .inl (cI, 284, .inl past)), (er, .inl (cI, 3, .inl err)), (na, .inl (cJ, 5, .inr (.inl e)))]) sz) := by
  refine Met.ofW (cc := cX4_covariance) (maxL := 1) (ret := (some .int)) (by decide) rfl ?_
  intro zp ze zs zm zargs zbelow zmeth zc zs1 B hml hv
  obtain ⟨rfl, hsz, hP, hK, hD0, hN⟩ := hv
  have hx := B.exec
  have hb := B.bytes
  have hr := B.returns
  have hts := atoms_spec (ws := wsX4_covariance) B.pre
  have hm : ∀ (i : Nat) (w : Cond), wsX4_covariance[i]? = some w → w.before _ zs = true := fun i w h => hts w (List.mem_of_getElem? h)
  have hown : zs.vm.findClass RX4 = some zm.cls := findClass_of_methodNamed B.named
  have hlocks := B.notSynchronized
  subst hsz
  have hD := hD0.self (sz := zs.heap.size)
  generalize hAe : va_A ([(h, .inr (4, [.ref sa, .ref pa, .int (nI p), .ref er, .ref na, .long (e 5), .long (e 6), .long (e 7), .long hs])), (sa, .inl (cI, 71, .inl s)), (pa, .inl (cI, 284, .inl past)), (er, .inl (cI, 3, .inl err)), (na, .inl (cJ, 5, .inr (.inl e)))]) zs.heap.size = A at hD ⊢
  have hA : ∀ q : Nat, zs.heap.size ≤ q → A q := fun q h => by rw [← hAe]; exact Or.inr h
  have hS : va_S A zs.heap zs.heap [] := va_S.rf
  have hP : va_P D vwCl ([(h, .inr (4, [.ref sa, .ref pa, .int (nI p), .ref er, .ref na, .long (e 5), .long (e 6), .long (e 7), .long hs])), (sa, .inl (cI, 71, .inl s)), (pa, .inl (cI, 284, .inl past)), (er, .inl (cI, 3, .inl err)), (na, .inl (cJ, 5, .inr (.inl e)))]) zs.heap := hP
  have hl := lv_entry ([.ref h]) (n := 1) (Nat.le_of_ble_eq_true rfl)
  rw [lg_entry_eq]
  generalize (lg_sl ([.ref h]) ++ List.replicate (1 - (lg_sl ([.ref h])).length) Slot.unset).toArray = ls at hl ⊢
  have hl : lv_has ls 1 [(0, .ref h)] := hl
  refine lv_aload_n hx hb dX4_covariance_0 rfl (lv_at hl 0 rfl) ?_
  refine va_get (D := D) (ci := 4) (v := .ref sa) (C := RX4) (T := TX4) (N := 9) hx hb hts izX4_covariance_4 hown hK hP 0 rfl rfl 0 (by decide) (hm 1 (.fieldLink RX4 7 "TankFilterModel" "s" "[I") rfl) (fun _ h9 => h9) rfl dX4_covariance_1 ?_
  refine lv_iconst (v := 3) hx hb dX4_covariance_4 (by decide) ?_
  refine ka_ild (D := D) (j := 3) (n := 71) (f := s) hx hb hK hP 1 0 rfl rfl (rfl) (by decide) (by decide) dX4_covariance_5 ?_
  exact W.iret (v := s 3) hx hb hr (fun zt ht hW => ⟨⟨s 3, (), rfl, rfl, KB.of hAe (by rw [ht]; exact hP) hD⟩, hS.F ht⟩) hS.2.2 dX4_covariance_6

theorem izX4_flowVariance_4 : ∀ w ∈ wsX40, w ∈ wsX4_flowVariance := fun _ h => List.mem_cons_of_mem _ (List.mem_append_right _ h)
set_option maxHeartbeats 4000000 in
set_option maxRecDepth 100000 in
/-- flowVariance -/
theorem k_X4_flowVariance (l : Launch) (D : va_G) (cI cM cJ : ClassId) (sz : Nat) (h sa pa er na : Nat) (p : Nat) (s past err : Nat → Int32) (e : Nat → Int64) (hs : Int64) : Met l yX4_flowVariance wsX4_flowVariance ({ frames := 0, cells := 0, slots := 0, locals := 0 }) (va_Pc [.ref h] (KP D (tk_T cI cM cJ) ([(h, .inr (4, [.ref sa, .ref pa, .int (nI p), .ref er, .ref na, .long (e 5), .long (e 6), .long (e 7), .long hs])), (sa, .inl (cI, 71, .inl s)), (pa, .inl (cI, 284, .inl past)), (er, .inl (cI, 3, .inl err)), (na, .inl (cJ, 5, .inr (.inl e)))]) sz)) (va_Qi (fun (r : Int32) (u : Unit) => r = s 4) (fun u zt => KB D ([(h, .inr (4, [.ref sa, .ref pa, .int (nI p), .ref er, .ref na, .long (e 5), .long (e 6), .long (e 7), .long hs])), (sa, .inl (cI, 71, .inl s)), (pa, .inl (cI, 284, .inl past)), (er, .inl (cI, 3, .inl err)), (na, .inl (cJ, 5, .inr (.inl e)))]) ([(h, .inr (4, [.ref sa, .ref pa, .int (nI p), .ref er, .ref na, .long (e 5), .long (e 6), .long (e 7), .long hs])), (sa, .inl (cI, 71, .inl s)), (pa, .inl (cI, 284, .inl past)), (er, .inl (cI, 3, .inl err)), (na, .inl (cJ, 5, .inr (.inl e)))]) sz zt) (va_A ([(h, .inr (4, [.ref sa, .ref pa, .int (nI p), .ref er, .ref na, .long (e 5), .long (e 6), .long (e 7), .long hs])), (sa, .inl (cI, 71, .inl s)), (pa, .inl (cI, 284, .inl past)), (er, .inl (cI, 3, .inl err)), (na, .inl (cJ, 5, .inr (.inl e)))]) sz)) 0 0 (va_A ([(h, .inr (4, [.ref sa, .ref pa, .int (nI p), .ref er, .ref na, .long (e 5), .long (e 6), .long (e 7), .long hs])), (sa, .inl (cI, 71, .inl s)), (pa, .inl (cI, 284, .inl past)), (er, .inl (cI, 3, .inl err)), (na, .inl (cJ, 5, .inr (.inl e)))]) sz) := by
  refine Met.ofW (cc := cX4_flowVariance) (maxL := 1) (ret := (some .int)) (by decide) rfl ?_
  intro zp ze zs zm zargs zbelow zmeth zc zs1 B hml hv
  obtain ⟨rfl, hsz, hP, hK, hD0, hN⟩ := hv
  have hx := B.exec
  have hb := B.bytes
  have hr := B.returns
  have hts := atoms_spec (ws := wsX4_flowVariance) B.pre
  have hm : ∀ (i : Nat) (w : Cond), wsX4_flowVariance[i]? = some w → w.before _ zs = true := fun i w h => hts w (List.mem_of_getElem? h)
  have hown : zs.vm.findClass RX4 = some zm.cls := findClass_of_methodNamed B.named
  have hlocks := B.notSynchronized
  subst hsz
  have hD := hD0.self (sz := zs.heap.size)
  generalize hAe : va_A ([(h, .inr (4, [.ref sa, .ref pa, .int (nI p), .ref er, .ref na, .long (e 5), .long (e 6), .long (e 7), .long hs])), (sa, .inl (cI, 71, .inl s)), (pa, .inl (cI, 284, .inl past)), (er, .inl (cI, 3, .inl err)), (na, .inl (cJ, 5, .inr (.inl e)))]) zs.heap.size = A at hD ⊢
  have hA : ∀ q : Nat, zs.heap.size ≤ q → A q := fun q h => by rw [← hAe]; exact Or.inr h
  have hS : va_S A zs.heap zs.heap [] := va_S.rf
  have hP : va_P D vwCl ([(h, .inr (4, [.ref sa, .ref pa, .int (nI p), .ref er, .ref na, .long (e 5), .long (e 6), .long (e 7), .long hs])), (sa, .inl (cI, 71, .inl s)), (pa, .inl (cI, 284, .inl past)), (er, .inl (cI, 3, .inl err)), (na, .inl (cJ, 5, .inr (.inl e)))]) zs.heap := hP
  have hl := lv_entry ([.ref h]) (n := 1) (Nat.le_of_ble_eq_true rfl)
  rw [lg_entry_eq]
  generalize (lg_sl ([.ref h]) ++ List.replicate (1 - (lg_sl ([.ref h])).length) Slot.unset).toArray = ls at hl ⊢
  have hl : lv_has ls 1 [(0, .ref h)] := hl
  refine lv_aload_n hx hb dX4_flowVariance_0 rfl (lv_at hl 0 rfl) ?_
  refine va_get (D := D) (ci := 4) (v := .ref sa) (C := RX4) (T := TX4) (N := 9) hx hb hts izX4_flowVariance_4 hown hK hP 0 rfl rfl 0 (by decide) (hm 1 (.fieldLink RX4 7 "TankFilterModel" "s" "[I") rfl) (fun _ h9 => h9) rfl dX4_flowVariance_1 ?_
  refine lv_iconst (v := 4) hx hb dX4_flowVariance_4 (by decide) ?_
  refine ka_ild (D := D) (j := 4) (n := 71) (f := s) hx hb hK hP 1 0 rfl rfl (rfl) (by decide) (by decide) dX4_flowVariance_5 ?_
  exact W.iret (v := s 4) hx hb hr (fun zt ht hW => ⟨⟨s 4, (), rfl, rfl, KB.of hAe (by rw [ht]; exact hP) hD⟩, hS.F ht⟩) hS.2.2 dX4_flowVariance_6

theorem izX4_innovation_4 : ∀ w ∈ wsX40, w ∈ wsX4_innovation := fun _ h => List.mem_cons_of_mem _ (List.mem_append_right _ h)
set_option maxHeartbeats 4000000 in
set_option maxRecDepth 100000 in
/-- innovation -/
theorem k_X4_innovation (l : Launch) (D : va_G) (cI cM cJ : ClassId) (sz : Nat) (h sa pa er na : Nat) (p : Nat) (s past err : Nat → Int32) (e : Nat → Int64) (hs : Int64) : Met l yX4_innovation wsX4_innovation ({ frames := 0, cells := 0, slots := 0, locals := 0 }) (va_Pc [.ref h] (KP D (tk_T cI cM cJ) ([(h, .inr (4, [.ref sa, .ref pa, .int (nI p), .ref er, .ref na, .long (e 5), .long (e 6), .long (e 7), .long hs])), (sa, .inl (cI, 71, .inl s)), (pa, .inl (cI, 284, .inl past)), (er, .inl (cI, 3, .inl err)), (na, .inl (cJ, 5, .inr (.inl e)))]) sz)) (va_Qi (fun (r : Int32) (u : Unit) => r = s 16) (fun u zt => KB D ([(h, .inr (4, [.ref sa, .ref pa, .int (nI p), .ref er, .ref na, .long (e 5), .long (e 6), .long (e 7), .long hs])), (sa, .inl (cI, 71, .inl s)), (pa, .inl (cI, 284, .inl past)), (er, .inl (cI, 3, .inl err)), (na, .inl (cJ, 5, .inr (.inl e)))]) ([(h, .inr (4, [.ref sa, .ref pa, .int (nI p), .ref er, .ref na, .long (e 5), .long (e 6), .long (e 7), .long hs])), (sa, .inl (cI, 71, .inl s)), (pa, .inl (cI, 284, .inl past)), (er, .inl (cI, 3, .inl err)), (na, .inl (cJ, 5, .inr (.inl e)))]) sz zt) (va_A ([(h, .inr (4, [.ref sa, .ref pa, .int (nI p), .ref er, .ref na, .long (e 5), .long (e 6), .long (e 7), .long hs])), (sa, .inl (cI, 71, .inl s)), (pa, .inl (cI, 284, .inl past)), (er, .inl (cI, 3, .inl err)), (na, .inl (cJ, 5, .inr (.inl e)))]) sz)) 0 0 (va_A ([(h, .inr (4, [.ref sa, .ref pa, .int (nI p), .ref er, .ref na, .long (e 5), .long (e 6), .long (e 7), .long hs])), (sa, .inl (cI, 71, .inl s)), (pa, .inl (cI, 284, .inl past)), (er, .inl (cI, 3, .inl err)), (na, .inl (cJ, 5, .inr (.inl e)))]) sz) := by
  refine Met.ofW (cc := cX4_innovation) (maxL := 1) (ret := (some .int)) (by decide) rfl ?_
  intro zp ze zs zm zargs zbelow zmeth zc zs1 B hml hv
  obtain ⟨rfl, hsz, hP, hK, hD0, hN⟩ := hv
  have hx := B.exec
  have hb := B.bytes
  have hr := B.returns
  have hts := atoms_spec (ws := wsX4_innovation) B.pre
  have hm : ∀ (i : Nat) (w : Cond), wsX4_innovation[i]? = some w → w.before _ zs = true := fun i w h => hts w (List.mem_of_getElem? h)
  have hown : zs.vm.findClass RX4 = some zm.cls := findClass_of_methodNamed B.named
  have hlocks := B.notSynchronized
  subst hsz
  have hD := hD0.self (sz := zs.heap.size)
  generalize hAe : va_A ([(h, .inr (4, [.ref sa, .ref pa, .int (nI p), .ref er, .ref na, .long (e 5), .long (e 6), .long (e 7), .long hs])), (sa, .inl (cI, 71, .inl s)), (pa, .inl (cI, 284, .inl past)), (er, .inl (cI, 3, .inl err)), (na, .inl (cJ, 5, .inr (.inl e)))]) zs.heap.size = A at hD ⊢
  have hA : ∀ q : Nat, zs.heap.size ≤ q → A q := fun q h => by rw [← hAe]; exact Or.inr h
  have hS : va_S A zs.heap zs.heap [] := va_S.rf
  have hP : va_P D vwCl ([(h, .inr (4, [.ref sa, .ref pa, .int (nI p), .ref er, .ref na, .long (e 5), .long (e 6), .long (e 7), .long hs])), (sa, .inl (cI, 71, .inl s)), (pa, .inl (cI, 284, .inl past)), (er, .inl (cI, 3, .inl err)), (na, .inl (cJ, 5, .inr (.inl e)))]) zs.heap := hP
  have hl := lv_entry ([.ref h]) (n := 1) (Nat.le_of_ble_eq_true rfl)
  rw [lg_entry_eq]
  generalize (lg_sl ([.ref h]) ++ List.replicate (1 - (lg_sl ([.ref h])).length) Slot.unset).toArray = ls at hl ⊢
  have hl : lv_has ls 1 [(0, .ref h)] := hl
  refine lv_aload_n hx hb dX4_innovation_0 rfl (lv_at hl 0 rfl) ?_
  refine va_get (D := D) (ci := 4) (v := .ref sa) (C := RX4) (T := TX4) (N := 9) hx hb hts izX4_innovation_4 hown hK hP 0 rfl rfl 0 (by decide) (hm 1 (.fieldLink RX4 7 "TankFilterModel" "s" "[I") rfl) (fun _ h9 => h9) rfl dX4_innovation_1 ?_
  refine lv_bipush (v := 16) hx hb dX4_innovation_4 (by decide) ?_
  refine ka_ild (D := D) (j := 16) (n := 71) (f := s) hx hb hK hP 1 0 rfl rfl (rfl) (by decide) (by decide) dX4_innovation_6 ?_
  exact W.iret (v := s 16) hx hb hr (fun zt ht hW => ⟨⟨s 16, (), rfl, rfl, KB.of hAe (by rw [ht]; exact hP) hD⟩, hS.F ht⟩) hS.2.2 dX4_innovation_7

theorem izX4_levelGain_4 : ∀ w ∈ wsX40, w ∈ wsX4_levelGain := fun _ h => List.mem_cons_of_mem _ (List.mem_append_right _ h)
set_option maxHeartbeats 4000000 in
set_option maxRecDepth 100000 in
/-- levelGain -/
theorem k_X4_levelGain (l : Launch) (D : va_G) (cI cM cJ : ClassId) (sz : Nat) (h sa pa er na : Nat) (p : Nat) (s past err : Nat → Int32) (e : Nat → Int64) (hs : Int64) : Met l yX4_levelGain wsX4_levelGain ({ frames := 0, cells := 0, slots := 0, locals := 0 }) (va_Pc [.ref h] (KP D (tk_T cI cM cJ) ([(h, .inr (4, [.ref sa, .ref pa, .int (nI p), .ref er, .ref na, .long (e 5), .long (e 6), .long (e 7), .long hs])), (sa, .inl (cI, 71, .inl s)), (pa, .inl (cI, 284, .inl past)), (er, .inl (cI, 3, .inl err)), (na, .inl (cJ, 5, .inr (.inl e)))]) sz)) (va_Qi (fun (r : Int32) (u : Unit) => r = s 17) (fun u zt => KB D ([(h, .inr (4, [.ref sa, .ref pa, .int (nI p), .ref er, .ref na, .long (e 5), .long (e 6), .long (e 7), .long hs])), (sa, .inl (cI, 71, .inl s)), (pa, .inl (cI, 284, .inl past)), (er, .inl (cI, 3, .inl err)), (na, .inl (cJ, 5, .inr (.inl e)))]) ([(h, .inr (4, [.ref sa, .ref pa, .int (nI p), .ref er, .ref na, .long (e 5), .long (e 6), .long (e 7), .long hs])), (sa, .inl (cI, 71, .inl s)), (pa, .inl (cI, 284, .inl past)), (er, .inl (cI, 3, .inl err)), (na, .inl (cJ, 5, .inr (.inl e)))]) sz zt) (va_A ([(h, .inr (4, [.ref sa, .ref pa, .int (nI p), .ref er, .ref na, .long (e 5), .long (e 6), .long (e 7), .long hs])), (sa, .inl (cI, 71, .inl s)), (pa, .inl (cI, 284, .inl past)), (er, .inl (cI, 3, .inl err)), (na, .inl (cJ, 5, .inr (.inl e)))]) sz)) 0 0 (va_A ([(h, .inr (4, [.ref sa, .ref pa, .int (nI p), .ref er, .ref na, .long (e 5), .long (e 6), .long (e 7), .long hs])), (sa, .inl (cI, 71, .inl s)), (pa, .inl (cI, 284, .inl past)), (er, .inl (cI, 3, .inl err)), (na, .inl (cJ, 5, .inr (.inl e)))]) sz) := by
  refine Met.ofW (cc := cX4_levelGain) (maxL := 1) (ret := (some .int)) (by decide) rfl ?_
  intro zp ze zs zm zargs zbelow zmeth zc zs1 B hml hv
  obtain ⟨rfl, hsz, hP, hK, hD0, hN⟩ := hv
  have hx := B.exec
  have hb := B.bytes
  have hr := B.returns
  have hts := atoms_spec (ws := wsX4_levelGain) B.pre
  have hm : ∀ (i : Nat) (w : Cond), wsX4_levelGain[i]? = some w → w.before _ zs = true := fun i w h => hts w (List.mem_of_getElem? h)
  have hown : zs.vm.findClass RX4 = some zm.cls := findClass_of_methodNamed B.named
  have hlocks := B.notSynchronized
  subst hsz
  have hD := hD0.self (sz := zs.heap.size)
  generalize hAe : va_A ([(h, .inr (4, [.ref sa, .ref pa, .int (nI p), .ref er, .ref na, .long (e 5), .long (e 6), .long (e 7), .long hs])), (sa, .inl (cI, 71, .inl s)), (pa, .inl (cI, 284, .inl past)), (er, .inl (cI, 3, .inl err)), (na, .inl (cJ, 5, .inr (.inl e)))]) zs.heap.size = A at hD ⊢
  have hA : ∀ q : Nat, zs.heap.size ≤ q → A q := fun q h => by rw [← hAe]; exact Or.inr h
  have hS : va_S A zs.heap zs.heap [] := va_S.rf
  have hP : va_P D vwCl ([(h, .inr (4, [.ref sa, .ref pa, .int (nI p), .ref er, .ref na, .long (e 5), .long (e 6), .long (e 7), .long hs])), (sa, .inl (cI, 71, .inl s)), (pa, .inl (cI, 284, .inl past)), (er, .inl (cI, 3, .inl err)), (na, .inl (cJ, 5, .inr (.inl e)))]) zs.heap := hP
  have hl := lv_entry ([.ref h]) (n := 1) (Nat.le_of_ble_eq_true rfl)
  rw [lg_entry_eq]
  generalize (lg_sl ([.ref h]) ++ List.replicate (1 - (lg_sl ([.ref h])).length) Slot.unset).toArray = ls at hl ⊢
  have hl : lv_has ls 1 [(0, .ref h)] := hl
  refine lv_aload_n hx hb dX4_levelGain_0 rfl (lv_at hl 0 rfl) ?_
  refine va_get (D := D) (ci := 4) (v := .ref sa) (C := RX4) (T := TX4) (N := 9) hx hb hts izX4_levelGain_4 hown hK hP 0 rfl rfl 0 (by decide) (hm 1 (.fieldLink RX4 7 "TankFilterModel" "s" "[I") rfl) (fun _ h9 => h9) rfl dX4_levelGain_1 ?_
  refine lv_bipush (v := 17) hx hb dX4_levelGain_4 (by decide) ?_
  refine ka_ild (D := D) (j := 17) (n := 71) (f := s) hx hb hK hP 1 0 rfl rfl (rfl) (by decide) (by decide) dX4_levelGain_6 ?_
  exact W.iret (v := s 17) hx hb hr (fun zt ht hW => ⟨⟨s 17, (), rfl, rfl, KB.of hAe (by rw [ht]; exact hP) hD⟩, hS.F ht⟩) hS.2.2 dX4_levelGain_7

theorem izX4_flowGain_4 : ∀ w ∈ wsX40, w ∈ wsX4_flowGain := fun _ h => List.mem_cons_of_mem _ (List.mem_append_right _ h)
set_option maxHeartbeats 4000000 in
set_option maxRecDepth 100000 in
/-- flowGain -/
theorem k_X4_flowGain (l : Launch) (D : va_G) (cI cM cJ : ClassId) (sz : Nat) (h sa pa er na : Nat) (p : Nat) (s past err : Nat → Int32) (e : Nat → Int64) (hs : Int64) : Met l yX4_flowGain wsX4_flowGain ({ frames := 0, cells := 0, slots := 0, locals := 0 }) (va_Pc [.ref h] (KP D (tk_T cI cM cJ) ([(h, .inr (4, [.ref sa, .ref pa, .int (nI p), .ref er, .ref na, .long (e 5), .long (e 6), .long (e 7), .long hs])), (sa, .inl (cI, 71, .inl s)), (pa, .inl (cI, 284, .inl past)), (er, .inl (cI, 3, .inl err)), (na, .inl (cJ, 5, .inr (.inl e)))]) sz)) (va_Qi (fun (r : Int32) (u : Unit) => r = s 18) (fun u zt => KB D ([(h, .inr (4, [.ref sa, .ref pa, .int (nI p), .ref er, .ref na, .long (e 5), .long (e 6), .long (e 7), .long hs])), (sa, .inl (cI, 71, .inl s)), (pa, .inl (cI, 284, .inl past)), (er, .inl (cI, 3, .inl err)), (na, .inl (cJ, 5, .inr (.inl e)))]) ([(h, .inr (4, [.ref sa, .ref pa, .int (nI p), .ref er, .ref na, .long (e 5), .long (e 6), .long (e 7), .long hs])), (sa, .inl (cI, 71, .inl s)), (pa, .inl (cI, 284, .inl past)), (er, .inl (cI, 3, .inl err)), (na, .inl (cJ, 5, .inr (.inl e)))]) sz zt) (va_A ([(h, .inr (4, [.ref sa, .ref pa, .int (nI p), .ref er, .ref na, .long (e 5), .long (e 6), .long (e 7), .long hs])), (sa, .inl (cI, 71, .inl s)), (pa, .inl (cI, 284, .inl past)), (er, .inl (cI, 3, .inl err)), (na, .inl (cJ, 5, .inr (.inl e)))]) sz)) 0 0 (va_A ([(h, .inr (4, [.ref sa, .ref pa, .int (nI p), .ref er, .ref na, .long (e 5), .long (e 6), .long (e 7), .long hs])), (sa, .inl (cI, 71, .inl s)), (pa, .inl (cI, 284, .inl past)), (er, .inl (cI, 3, .inl err)), (na, .inl (cJ, 5, .inr (.inl e)))]) sz) := by
  refine Met.ofW (cc := cX4_flowGain) (maxL := 1) (ret := (some .int)) (by decide) rfl ?_
  intro zp ze zs zm zargs zbelow zmeth zc zs1 B hml hv
  obtain ⟨rfl, hsz, hP, hK, hD0, hN⟩ := hv
  have hx := B.exec
  have hb := B.bytes
  have hr := B.returns
  have hts := atoms_spec (ws := wsX4_flowGain) B.pre
  have hm : ∀ (i : Nat) (w : Cond), wsX4_flowGain[i]? = some w → w.before _ zs = true := fun i w h => hts w (List.mem_of_getElem? h)
  have hown : zs.vm.findClass RX4 = some zm.cls := findClass_of_methodNamed B.named
  have hlocks := B.notSynchronized
  subst hsz
  have hD := hD0.self (sz := zs.heap.size)
  generalize hAe : va_A ([(h, .inr (4, [.ref sa, .ref pa, .int (nI p), .ref er, .ref na, .long (e 5), .long (e 6), .long (e 7), .long hs])), (sa, .inl (cI, 71, .inl s)), (pa, .inl (cI, 284, .inl past)), (er, .inl (cI, 3, .inl err)), (na, .inl (cJ, 5, .inr (.inl e)))]) zs.heap.size = A at hD ⊢
  have hA : ∀ q : Nat, zs.heap.size ≤ q → A q := fun q h => by rw [← hAe]; exact Or.inr h
  have hS : va_S A zs.heap zs.heap [] := va_S.rf
  have hP : va_P D vwCl ([(h, .inr (4, [.ref sa, .ref pa, .int (nI p), .ref er, .ref na, .long (e 5), .long (e 6), .long (e 7), .long hs])), (sa, .inl (cI, 71, .inl s)), (pa, .inl (cI, 284, .inl past)), (er, .inl (cI, 3, .inl err)), (na, .inl (cJ, 5, .inr (.inl e)))]) zs.heap := hP
  have hl := lv_entry ([.ref h]) (n := 1) (Nat.le_of_ble_eq_true rfl)
  rw [lg_entry_eq]
  generalize (lg_sl ([.ref h]) ++ List.replicate (1 - (lg_sl ([.ref h])).length) Slot.unset).toArray = ls at hl ⊢
  have hl : lv_has ls 1 [(0, .ref h)] := hl
  refine lv_aload_n hx hb dX4_flowGain_0 rfl (lv_at hl 0 rfl) ?_
  refine va_get (D := D) (ci := 4) (v := .ref sa) (C := RX4) (T := TX4) (N := 9) hx hb hts izX4_flowGain_4 hown hK hP 0 rfl rfl 0 (by decide) (hm 1 (.fieldLink RX4 7 "TankFilterModel" "s" "[I") rfl) (fun _ h9 => h9) rfl dX4_flowGain_1 ?_
  refine lv_bipush (v := 18) hx hb dX4_flowGain_4 (by decide) ?_
  refine ka_ild (D := D) (j := 18) (n := 71) (f := s) hx hb hK hP 1 0 rfl rfl (rfl) (by decide) (by decide) dX4_flowGain_6 ?_
  exact W.iret (v := s 18) hx hb hr (fun zt ht hW => ⟨⟨s 18, (), rfl, rfl, KB.of hAe (by rw [ht]; exact hP) hD⟩, hS.F ht⟩) hS.2.2 dX4_flowGain_7

theorem izX4_accepted_4 : ∀ w ∈ wsX40, w ∈ wsX4_accepted := fun _ h => List.mem_cons_of_mem _ (List.mem_append_right _ h)
set_option maxHeartbeats 4000000 in
set_option maxRecDepth 100000 in
/-- accepted -/
theorem k_X4_accepted (l : Launch) (D : va_G) (cI cM cJ : ClassId) (sz : Nat) (h sa pa er na : Nat) (p : Nat) (s past err : Nat → Int32) (e : Nat → Int64) (hs : Int64) : Met l yX4_accepted wsX4_accepted ({ frames := 0, cells := 0, slots := 0, locals := 0 }) (va_Pc [.ref h] (KP D (tk_T cI cM cJ) ([(h, .inr (4, [.ref sa, .ref pa, .int (nI p), .ref er, .ref na, .long (e 5), .long (e 6), .long (e 7), .long hs])), (sa, .inl (cI, 71, .inl s)), (pa, .inl (cI, 284, .inl past)), (er, .inl (cI, 3, .inl err)), (na, .inl (cJ, 5, .inr (.inl e)))]) sz)) (va_Qi (fun (r : Int32) (u : Unit) => r = s 19) (fun u zt => KB D ([(h, .inr (4, [.ref sa, .ref pa, .int (nI p), .ref er, .ref na, .long (e 5), .long (e 6), .long (e 7), .long hs])), (sa, .inl (cI, 71, .inl s)), (pa, .inl (cI, 284, .inl past)), (er, .inl (cI, 3, .inl err)), (na, .inl (cJ, 5, .inr (.inl e)))]) ([(h, .inr (4, [.ref sa, .ref pa, .int (nI p), .ref er, .ref na, .long (e 5), .long (e 6), .long (e 7), .long hs])), (sa, .inl (cI, 71, .inl s)), (pa, .inl (cI, 284, .inl past)), (er, .inl (cI, 3, .inl err)), (na, .inl (cJ, 5, .inr (.inl e)))]) sz zt) (va_A ([(h, .inr (4, [.ref sa, .ref pa, .int (nI p), .ref er, .ref na, .long (e 5), .long (e 6), .long (e 7), .long hs])), (sa, .inl (cI, 71, .inl s)), (pa, .inl (cI, 284, .inl past)), (er, .inl (cI, 3, .inl err)), (na, .inl (cJ, 5, .inr (.inl e)))]) sz)) 0 0 (va_A ([(h, .inr (4, [.ref sa, .ref pa, .int (nI p), .ref er, .ref na, .long (e 5), .long (e 6), .long (e 7), .long hs])), (sa, .inl (cI, 71, .inl s)), (pa, .inl (cI, 284, .inl past)), (er, .inl (cI, 3, .inl err)), (na, .inl (cJ, 5, .inr (.inl e)))]) sz) := by
  refine Met.ofW (cc := cX4_accepted) (maxL := 1) (ret := (some .int)) (by decide) rfl ?_
  intro zp ze zs zm zargs zbelow zmeth zc zs1 B hml hv
  obtain ⟨rfl, hsz, hP, hK, hD0, hN⟩ := hv
  have hx := B.exec
  have hb := B.bytes
  have hr := B.returns
  have hts := atoms_spec (ws := wsX4_accepted) B.pre
  have hm : ∀ (i : Nat) (w : Cond), wsX4_accepted[i]? = some w → w.before _ zs = true := fun i w h => hts w (List.mem_of_getElem? h)
  have hown : zs.vm.findClass RX4 = some zm.cls := findClass_of_methodNamed B.named
  have hlocks := B.notSynchronized
  subst hsz
  have hD := hD0.self (sz := zs.heap.size)
  generalize hAe : va_A ([(h, .inr (4, [.ref sa, .ref pa, .int (nI p), .ref er, .ref na, .long (e 5), .long (e 6), .long (e 7), .long hs])), (sa, .inl (cI, 71, .inl s)), (pa, .inl (cI, 284, .inl past)), (er, .inl (cI, 3, .inl err)), (na, .inl (cJ, 5, .inr (.inl e)))]) zs.heap.size = A at hD ⊢
  have hA : ∀ q : Nat, zs.heap.size ≤ q → A q := fun q h => by rw [← hAe]; exact Or.inr h
  have hS : va_S A zs.heap zs.heap [] := va_S.rf
  have hP : va_P D vwCl ([(h, .inr (4, [.ref sa, .ref pa, .int (nI p), .ref er, .ref na, .long (e 5), .long (e 6), .long (e 7), .long hs])), (sa, .inl (cI, 71, .inl s)), (pa, .inl (cI, 284, .inl past)), (er, .inl (cI, 3, .inl err)), (na, .inl (cJ, 5, .inr (.inl e)))]) zs.heap := hP
  have hl := lv_entry ([.ref h]) (n := 1) (Nat.le_of_ble_eq_true rfl)
  rw [lg_entry_eq]
  generalize (lg_sl ([.ref h]) ++ List.replicate (1 - (lg_sl ([.ref h])).length) Slot.unset).toArray = ls at hl ⊢
  have hl : lv_has ls 1 [(0, .ref h)] := hl
  refine lv_aload_n hx hb dX4_accepted_0 rfl (lv_at hl 0 rfl) ?_
  refine va_get (D := D) (ci := 4) (v := .ref sa) (C := RX4) (T := TX4) (N := 9) hx hb hts izX4_accepted_4 hown hK hP 0 rfl rfl 0 (by decide) (hm 1 (.fieldLink RX4 7 "TankFilterModel" "s" "[I") rfl) (fun _ h9 => h9) rfl dX4_accepted_1 ?_
  refine lv_bipush (v := 19) hx hb dX4_accepted_4 (by decide) ?_
  refine ka_ild (D := D) (j := 19) (n := 71) (f := s) hx hb hK hP 1 0 rfl rfl (rfl) (by decide) (by decide) dX4_accepted_6 ?_
  exact W.iret (v := s 19) hx hb hr (fun zt ht hW => ⟨⟨s 19, (), rfl, rfl, KB.of hAe (by rw [ht]; exact hP) hD⟩, hS.F ht⟩) hS.2.2 dX4_accepted_7

theorem izX4_rejected_4 : ∀ w ∈ wsX40, w ∈ wsX4_rejected := fun _ h => List.mem_cons_of_mem _ (List.mem_append_right _ h)
set_option maxHeartbeats 4000000 in
set_option maxRecDepth 100000 in
/-- rejected -/
theorem k_X4_rejected (l : Launch) (D : va_G) (cI cM cJ : ClassId) (sz : Nat) (h sa pa er na : Nat) (p : Nat) (s past err : Nat → Int32) (e : Nat → Int64) (hs : Int64) : Met l yX4_rejected wsX4_rejected ({ frames := 0, cells := 0, slots := 0, locals := 0 }) (va_Pc [.ref h] (KP D (tk_T cI cM cJ) ([(h, .inr (4, [.ref sa, .ref pa, .int (nI p), .ref er, .ref na, .long (e 5), .long (e 6), .long (e 7), .long hs])), (sa, .inl (cI, 71, .inl s)), (pa, .inl (cI, 284, .inl past)), (er, .inl (cI, 3, .inl err)), (na, .inl (cJ, 5, .inr (.inl e)))]) sz)) (va_Qi (fun (r : Int32) (u : Unit) => r = s 20) (fun u zt => KB D ([(h, .inr (4, [.ref sa, .ref pa, .int (nI p), .ref er, .ref na, .long (e 5), .long (e 6), .long (e 7), .long hs])), (sa, .inl (cI, 71, .inl s)), (pa, .inl (cI, 284, .inl past)), (er, .inl (cI, 3, .inl err)), (na, .inl (cJ, 5, .inr (.inl e)))]) ([(h, .inr (4, [.ref sa, .ref pa, .int (nI p), .ref er, .ref na, .long (e 5), .long (e 6), .long (e 7), .long hs])), (sa, .inl (cI, 71, .inl s)), (pa, .inl (cI, 284, .inl past)), (er, .inl (cI, 3, .inl err)), (na, .inl (cJ, 5, .inr (.inl e)))]) sz zt) (va_A ([(h, .inr (4, [.ref sa, .ref pa, .int (nI p), .ref er, .ref na, .long (e 5), .long (e 6), .long (e 7), .long hs])), (sa, .inl (cI, 71, .inl s)), (pa, .inl (cI, 284, .inl past)), (er, .inl (cI, 3, .inl err)), (na, .inl (cJ, 5, .inr (.inl e)))]) sz)) 0 0 (va_A ([(h, .inr (4, [.ref sa, .ref pa, .int (nI p), .ref er, .ref na, .long (e 5), .long (e 6), .long (e 7), .long hs])), (sa, .inl (cI, 71, .inl s)), (pa, .inl (cI, 284, .inl past)), (er, .inl (cI, 3, .inl err)), (na, .inl (cJ, 5, .inr (.inl e)))]) sz) := by
  refine Met.ofW (cc := cX4_rejected) (maxL := 1) (ret := (some .int)) (by decide) rfl ?_
  intro zp ze zs zm zargs zbelow zmeth zc zs1 B hml hv
  obtain ⟨rfl, hsz, hP, hK, hD0, hN⟩ := hv
  have hx := B.exec
  have hb := B.bytes
  have hr := B.returns
  have hts := atoms_spec (ws := wsX4_rejected) B.pre
  have hm : ∀ (i : Nat) (w : Cond), wsX4_rejected[i]? = some w → w.before _ zs = true := fun i w h => hts w (List.mem_of_getElem? h)
  have hown : zs.vm.findClass RX4 = some zm.cls := findClass_of_methodNamed B.named
  have hlocks := B.notSynchronized
  subst hsz
  have hD := hD0.self (sz := zs.heap.size)
  generalize hAe : va_A ([(h, .inr (4, [.ref sa, .ref pa, .int (nI p), .ref er, .ref na, .long (e 5), .long (e 6), .long (e 7), .long hs])), (sa, .inl (cI, 71, .inl s)), (pa, .inl (cI, 284, .inl past)), (er, .inl (cI, 3, .inl err)), (na, .inl (cJ, 5, .inr (.inl e)))]) zs.heap.size = A at hD ⊢
  have hA : ∀ q : Nat, zs.heap.size ≤ q → A q := fun q h => by rw [← hAe]; exact Or.inr h
  have hS : va_S A zs.heap zs.heap [] := va_S.rf
  have hP : va_P D vwCl ([(h, .inr (4, [.ref sa, .ref pa, .int (nI p), .ref er, .ref na, .long (e 5), .long (e 6), .long (e 7), .long hs])), (sa, .inl (cI, 71, .inl s)), (pa, .inl (cI, 284, .inl past)), (er, .inl (cI, 3, .inl err)), (na, .inl (cJ, 5, .inr (.inl e)))]) zs.heap := hP
  have hl := lv_entry ([.ref h]) (n := 1) (Nat.le_of_ble_eq_true rfl)
  rw [lg_entry_eq]
  generalize (lg_sl ([.ref h]) ++ List.replicate (1 - (lg_sl ([.ref h])).length) Slot.unset).toArray = ls at hl ⊢
  have hl : lv_has ls 1 [(0, .ref h)] := hl
  refine lv_aload_n hx hb dX4_rejected_0 rfl (lv_at hl 0 rfl) ?_
  refine va_get (D := D) (ci := 4) (v := .ref sa) (C := RX4) (T := TX4) (N := 9) hx hb hts izX4_rejected_4 hown hK hP 0 rfl rfl 0 (by decide) (hm 1 (.fieldLink RX4 7 "TankFilterModel" "s" "[I") rfl) (fun _ h9 => h9) rfl dX4_rejected_1 ?_
  refine lv_bipush (v := 20) hx hb dX4_rejected_4 (by decide) ?_
  refine ka_ild (D := D) (j := 20) (n := 71) (f := s) hx hb hK hP 1 0 rfl rfl (rfl) (by decide) (by decide) dX4_rejected_6 ?_
  exact W.iret (v := s 20) hx hb hr (fun zt ht hW => ⟨⟨s 20, (), rfl, rfl, KB.of hAe (by rw [ht]; exact hP) hD⟩, hS.F ht⟩) hS.2.2 dX4_rejected_7

theorem izX4_missed_4 : ∀ w ∈ wsX40, w ∈ wsX4_missed := fun _ h => List.mem_cons_of_mem _ (List.mem_append_right _ h)
set_option maxHeartbeats 4000000 in
set_option maxRecDepth 100000 in
/-- missed -/
theorem k_X4_missed (l : Launch) (D : va_G) (cI cM cJ : ClassId) (sz : Nat) (h sa pa er na : Nat) (p : Nat) (s past err : Nat → Int32) (e : Nat → Int64) (hs : Int64) : Met l yX4_missed wsX4_missed ({ frames := 0, cells := 0, slots := 0, locals := 0 }) (va_Pc [.ref h] (KP D (tk_T cI cM cJ) ([(h, .inr (4, [.ref sa, .ref pa, .int (nI p), .ref er, .ref na, .long (e 5), .long (e 6), .long (e 7), .long hs])), (sa, .inl (cI, 71, .inl s)), (pa, .inl (cI, 284, .inl past)), (er, .inl (cI, 3, .inl err)), (na, .inl (cJ, 5, .inr (.inl e)))]) sz)) (va_Qi (fun (r : Int32) (u : Unit) => r = s 21) (fun u zt => KB D ([(h, .inr (4, [.ref sa, .ref pa, .int (nI p), .ref er, .ref na, .long (e 5), .long (e 6), .long (e 7), .long hs])), (sa, .inl (cI, 71, .inl s)), (pa, .inl (cI, 284, .inl past)), (er, .inl (cI, 3, .inl err)), (na, .inl (cJ, 5, .inr (.inl e)))]) ([(h, .inr (4, [.ref sa, .ref pa, .int (nI p), .ref er, .ref na, .long (e 5), .long (e 6), .long (e 7), .long hs])), (sa, .inl (cI, 71, .inl s)), (pa, .inl (cI, 284, .inl past)), (er, .inl (cI, 3, .inl err)), (na, .inl (cJ, 5, .inr (.inl e)))]) sz zt) (va_A ([(h, .inr (4, [.ref sa, .ref pa, .int (nI p), .ref er, .ref na, .long (e 5), .long (e 6), .long (e 7), .long hs])), (sa, .inl (cI, 71, .inl s)), (pa, .inl (cI, 284, .inl past)), (er, .inl (cI, 3, .inl err)), (na, .inl (cJ, 5, .inr (.inl e)))]) sz)) 0 0 (va_A ([(h, .inr (4, [.ref sa, .ref pa, .int (nI p), .ref er, .ref na, .long (e 5), .long (e 6), .long (e 7), .long hs])), (sa, .inl (cI, 71, .inl s)), (pa, .inl (cI, 284, .inl past)), (er, .inl (cI, 3, .inl err)), (na, .inl (cJ, 5, .inr (.inl e)))]) sz) := by
  refine Met.ofW (cc := cX4_missed) (maxL := 1) (ret := (some .int)) (by decide) rfl ?_
  intro zp ze zs zm zargs zbelow zmeth zc zs1 B hml hv
  obtain ⟨rfl, hsz, hP, hK, hD0, hN⟩ := hv
  have hx := B.exec
  have hb := B.bytes
  have hr := B.returns
  have hts := atoms_spec (ws := wsX4_missed) B.pre
  have hm : ∀ (i : Nat) (w : Cond), wsX4_missed[i]? = some w → w.before _ zs = true := fun i w h => hts w (List.mem_of_getElem? h)
  have hown : zs.vm.findClass RX4 = some zm.cls := findClass_of_methodNamed B.named
  have hlocks := B.notSynchronized
  subst hsz
  have hD := hD0.self (sz := zs.heap.size)
  generalize hAe : va_A ([(h, .inr (4, [.ref sa, .ref pa, .int (nI p), .ref er, .ref na, .long (e 5), .long (e 6), .long (e 7), .long hs])), (sa, .inl (cI, 71, .inl s)), (pa, .inl (cI, 284, .inl past)), (er, .inl (cI, 3, .inl err)), (na, .inl (cJ, 5, .inr (.inl e)))]) zs.heap.size = A at hD ⊢
  have hA : ∀ q : Nat, zs.heap.size ≤ q → A q := fun q h => by rw [← hAe]; exact Or.inr h
  have hS : va_S A zs.heap zs.heap [] := va_S.rf
  have hP : va_P D vwCl ([(h, .inr (4, [.ref sa, .ref pa, .int (nI p), .ref er, .ref na, .long (e 5), .long (e 6), .long (e 7), .long hs])), (sa, .inl (cI, 71, .inl s)), (pa, .inl (cI, 284, .inl past)), (er, .inl (cI, 3, .inl err)), (na, .inl (cJ, 5, .inr (.inl e)))]) zs.heap := hP
  have hl := lv_entry ([.ref h]) (n := 1) (Nat.le_of_ble_eq_true rfl)
  rw [lg_entry_eq]
  generalize (lg_sl ([.ref h]) ++ List.replicate (1 - (lg_sl ([.ref h])).length) Slot.unset).toArray = ls at hl ⊢
  have hl : lv_has ls 1 [(0, .ref h)] := hl
  refine lv_aload_n hx hb dX4_missed_0 rfl (lv_at hl 0 rfl) ?_
  refine va_get (D := D) (ci := 4) (v := .ref sa) (C := RX4) (T := TX4) (N := 9) hx hb hts izX4_missed_4 hown hK hP 0 rfl rfl 0 (by decide) (hm 1 (.fieldLink RX4 7 "TankFilterModel" "s" "[I") rfl) (fun _ h9 => h9) rfl dX4_missed_1 ?_
  refine lv_bipush (v := 21) hx hb dX4_missed_4 (by decide) ?_
  refine ka_ild (D := D) (j := 21) (n := 71) (f := s) hx hb hK hP 1 0 rfl rfl (rfl) (by decide) (by decide) dX4_missed_6 ?_
  exact W.iret (v := s 21) hx hb hr (fun zt ht hW => ⟨⟨s 21, (), rfl, rfl, KB.of hAe (by rw [ht]; exact hP) hD⟩, hS.F ht⟩) hS.2.2 dX4_missed_7

theorem izX4_historyLength_4 : ∀ w ∈ wsX40, w ∈ wsX4_historyLength := fun _ h => List.mem_cons_of_mem _ (List.mem_append_right _ h)
set_option maxHeartbeats 4000000 in
set_option maxRecDepth 100000 in
/-- historyLength -/
theorem k_X4_historyLength (l : Launch) (D : va_G) (cI cM cJ : ClassId) (sz : Nat) (h sa pa er na : Nat) (p : Nat) (s past err : Nat → Int32) (e : Nat → Int64) (hs : Int64) : Met l yX4_historyLength wsX4_historyLength ({ frames := 0, cells := 0, slots := 0, locals := 0 }) (va_Pc [.ref h] (KP D (tk_T cI cM cJ) ([(h, .inr (4, [.ref sa, .ref pa, .int (nI p), .ref er, .ref na, .long (e 5), .long (e 6), .long (e 7), .long hs])), (sa, .inl (cI, 71, .inl s)), (pa, .inl (cI, 284, .inl past)), (er, .inl (cI, 3, .inl err)), (na, .inl (cJ, 5, .inr (.inl e)))]) sz)) (va_Qi (fun (r : Int32) (u : Unit) => r = s 22) (fun u zt => KB D ([(h, .inr (4, [.ref sa, .ref pa, .int (nI p), .ref er, .ref na, .long (e 5), .long (e 6), .long (e 7), .long hs])), (sa, .inl (cI, 71, .inl s)), (pa, .inl (cI, 284, .inl past)), (er, .inl (cI, 3, .inl err)), (na, .inl (cJ, 5, .inr (.inl e)))]) ([(h, .inr (4, [.ref sa, .ref pa, .int (nI p), .ref er, .ref na, .long (e 5), .long (e 6), .long (e 7), .long hs])), (sa, .inl (cI, 71, .inl s)), (pa, .inl (cI, 284, .inl past)), (er, .inl (cI, 3, .inl err)), (na, .inl (cJ, 5, .inr (.inl e)))]) sz zt) (va_A ([(h, .inr (4, [.ref sa, .ref pa, .int (nI p), .ref er, .ref na, .long (e 5), .long (e 6), .long (e 7), .long hs])), (sa, .inl (cI, 71, .inl s)), (pa, .inl (cI, 284, .inl past)), (er, .inl (cI, 3, .inl err)), (na, .inl (cJ, 5, .inr (.inl e)))]) sz)) 0 0 (va_A ([(h, .inr (4, [.ref sa, .ref pa, .int (nI p), .ref er, .ref na, .long (e 5), .long (e 6), .long (e 7), .long hs])), (sa, .inl (cI, 71, .inl s)), (pa, .inl (cI, 284, .inl past)), (er, .inl (cI, 3, .inl err)), (na, .inl (cJ, 5, .inr (.inl e)))]) sz) := by
  refine Met.ofW (cc := cX4_historyLength) (maxL := 1) (ret := (some .int)) (by decide) rfl ?_
  intro zp ze zs zm zargs zbelow zmeth zc zs1 B hml hv
  obtain ⟨rfl, hsz, hP, hK, hD0, hN⟩ := hv
  have hx := B.exec
  have hb := B.bytes
  have hr := B.returns
  have hts := atoms_spec (ws := wsX4_historyLength) B.pre
  have hm : ∀ (i : Nat) (w : Cond), wsX4_historyLength[i]? = some w → w.before _ zs = true := fun i w h => hts w (List.mem_of_getElem? h)
  have hown : zs.vm.findClass RX4 = some zm.cls := findClass_of_methodNamed B.named
  have hlocks := B.notSynchronized
  subst hsz
  have hD := hD0.self (sz := zs.heap.size)
  generalize hAe : va_A ([(h, .inr (4, [.ref sa, .ref pa, .int (nI p), .ref er, .ref na, .long (e 5), .long (e 6), .long (e 7), .long hs])), (sa, .inl (cI, 71, .inl s)), (pa, .inl (cI, 284, .inl past)), (er, .inl (cI, 3, .inl err)), (na, .inl (cJ, 5, .inr (.inl e)))]) zs.heap.size = A at hD ⊢
  have hA : ∀ q : Nat, zs.heap.size ≤ q → A q := fun q h => by rw [← hAe]; exact Or.inr h
  have hS : va_S A zs.heap zs.heap [] := va_S.rf
  have hP : va_P D vwCl ([(h, .inr (4, [.ref sa, .ref pa, .int (nI p), .ref er, .ref na, .long (e 5), .long (e 6), .long (e 7), .long hs])), (sa, .inl (cI, 71, .inl s)), (pa, .inl (cI, 284, .inl past)), (er, .inl (cI, 3, .inl err)), (na, .inl (cJ, 5, .inr (.inl e)))]) zs.heap := hP
  have hl := lv_entry ([.ref h]) (n := 1) (Nat.le_of_ble_eq_true rfl)
  rw [lg_entry_eq]
  generalize (lg_sl ([.ref h]) ++ List.replicate (1 - (lg_sl ([.ref h])).length) Slot.unset).toArray = ls at hl ⊢
  have hl : lv_has ls 1 [(0, .ref h)] := hl
  refine lv_aload_n hx hb dX4_historyLength_0 rfl (lv_at hl 0 rfl) ?_
  refine va_get (D := D) (ci := 4) (v := .ref sa) (C := RX4) (T := TX4) (N := 9) hx hb hts izX4_historyLength_4 hown hK hP 0 rfl rfl 0 (by decide) (hm 1 (.fieldLink RX4 7 "TankFilterModel" "s" "[I") rfl) (fun _ h9 => h9) rfl dX4_historyLength_1 ?_
  refine lv_bipush (v := 22) hx hb dX4_historyLength_4 (by decide) ?_
  refine ka_ild (D := D) (j := 22) (n := 71) (f := s) hx hb hK hP 1 0 rfl rfl (rfl) (by decide) (by decide) dX4_historyLength_6 ?_
  exact W.iret (v := s 22) hx hb hr (fun zt ht hW => ⟨⟨s 22, (), rfl, rfl, KB.of hAe (by rw [ht]; exact hP) hD⟩, hS.F ht⟩) hS.2.2 dX4_historyLength_7

def yf_setGate (Y : tk_Y) (y : Int32) : Int32 × tk_Y := if tk_rng 0 25 y then (Y.2.1 7, tk_nv Y (upd Y.2.1 7 y)) else (-2000000002, tk_yl Y 0)

theorem izX4_setGate_4 : ∀ w ∈ wsX40, w ∈ wsX4_setGate := fun _ h => List.mem_cons_of_mem _ (List.mem_append_right _ h)
set_option maxHeartbeats 4000000 in
set_option maxRecDepth 100000 in
/-- setGate -/
theorem k_X4_setGate (l : Launch) (D : va_G) (cI cM cJ : ClassId) (sz : Nat) (h sa pa er na : Nat) (p : Nat) (s past err : Nat → Int32) (e : Nat → Int64) (hs : Int64) (y : Int32) (hp : p ≤ 4) : Met l yX4_setGate wsX4_setGate ({ frames := 1, cells := 0, slots := 0, locals := 22 }) (va_Pc [.ref h, .int y] (KP D (tk_T cI cM cJ) ([(h, .inr (4, [.ref sa, .ref pa, .int (nI p), .ref er, .ref na, .long (e 5), .long (e 6), .long (e 7), .long hs])), (sa, .inl (cI, 71, .inl s)), (pa, .inl (cI, 284, .inl past)), (er, .inl (cI, 3, .inl err)), (na, .inl (cJ, 5, .inr (.inl e)))]) sz)) (va_Qi (fun (r : Int32) (u : tk_Y × (Nat → Int64) × Int64) => r = (yf_setGate (p, s, past, err) y).1 ∧ u.1 = (yf_setGate (p, s, past, err) y).2) (fun u zt => KB D ([(h, .inr (4, [.ref sa, .ref pa, .int (nI p), .ref er, .ref na, .long (e 5), .long (e 6), .long (e 7), .long hs])), (sa, .inl (cI, 71, .inl s)), (pa, .inl (cI, 284, .inl past)), (er, .inl (cI, 3, .inl err)), (na, .inl (cJ, 5, .inr (.inl e)))]) ([(h, .inr (4, [.ref sa, .ref pa, .int (nI u.1.1), .ref er, .ref na, .long (u.2.1 5), .long (u.2.1 6), .long (u.2.1 7), .long u.2.2])), (sa, .inl (cI, 71, .inl u.1.2.1)), (pa, .inl (cI, 284, .inl u.1.2.2.1)), (er, .inl (cI, 3, .inl u.1.2.2.2)), (na, .inl (cJ, 5, .inr (.inl u.2.1)))]) sz zt) (va_A ([(h, .inr (4, [.ref sa, .ref pa, .int (nI p), .ref er, .ref na, .long (e 5), .long (e 6), .long (e 7), .long hs])), (sa, .inl (cI, 71, .inl s)), (pa, .inl (cI, 284, .inl past)), (er, .inl (cI, 3, .inl err)), (na, .inl (cJ, 5, .inr (.inl e)))]) sz)) 0 0 (va_A ([(h, .inr (4, [.ref sa, .ref pa, .int (nI p), .ref er, .ref na, .long (e 5), .long (e 6), .long (e 7), .long hs])), (sa, .inl (cI, 71, .inl s)), (pa, .inl (cI, 284, .inl past)), (er, .inl (cI, 3, .inl err)), (na, .inl (cJ, 5, .inr (.inl e)))]) sz) := by
  refine Met.ofW (cc := cX4_setGate) (maxL := 3) (ret := (some .int)) (by decide) rfl ?_
  intro zp ze zs zm zargs zbelow zmeth zc zs1 B hml hv
  obtain ⟨rfl, hsz, hP, hK, hD0, hN⟩ := hv
  have hx := B.exec
  have hb := B.bytes
  have hr := B.returns
  have hts := atoms_spec (ws := wsX4_setGate) B.pre
  have hm : ∀ (i : Nat) (w : Cond), wsX4_setGate[i]? = some w → w.before _ zs = true := fun i w h => hts w (List.mem_of_getElem? h)
  have hown : zs.vm.findClass RX4 = some zm.cls := findClass_of_methodNamed B.named
  have hlocks := B.notSynchronized
  subst hsz
  have hD := hD0.self (sz := zs.heap.size)
  generalize hAe : va_A ([(h, .inr (4, [.ref sa, .ref pa, .int (nI p), .ref er, .ref na, .long (e 5), .long (e 6), .long (e 7), .long hs])), (sa, .inl (cI, 71, .inl s)), (pa, .inl (cI, 284, .inl past)), (er, .inl (cI, 3, .inl err)), (na, .inl (cJ, 5, .inr (.inl e)))]) zs.heap.size = A at hD ⊢
  have hA : ∀ q : Nat, zs.heap.size ≤ q → A q := fun q h => by rw [← hAe]; exact Or.inr h
  have hS : va_S A zs.heap zs.heap [] := va_S.rf
  have hP : va_P D vwCl ([(h, .inr (4, [.ref sa, .ref pa, .int (nI p), .ref er, .ref na, .long (e 5), .long (e 6), .long (e 7), .long hs])), (sa, .inl (cI, 71, .inl s)), (pa, .inl (cI, 284, .inl past)), (er, .inl (cI, 3, .inl err)), (na, .inl (cJ, 5, .inr (.inl e)))]) zs.heap := hP
  have hl := lv_entry ([.ref h, .int y]) (n := 3) (Nat.le_of_ble_eq_true rfl)
  rw [lg_entry_eq]
  generalize (lg_sl ([.ref h, .int y]) ++ List.replicate (3 - (lg_sl ([.ref h, .int y])).length) Slot.unset).toArray = ls at hl ⊢
  have hl : lv_has ls 3 [(0, .ref h), (1, .int y)] := hl
  refine lv_iload_n hx hb dX4_setGate_0 rfl (lv_at hl 1 rfl) ?_
  refine lv_iconst (v := 0) hx hb dX4_setGate_1 (by decide) ?_
  refine lv_bipush (v := 25) hx hb dX4_setGate_2 (by decide) ?_
  refine kc_i (wc := []) (wr := [(h, .inr (4, [.ref sa, .ref pa, .int (nI p), .ref er, .ref na, .long (e 5), .long (e 6), .long (e 7), .long hs])), (sa, .inl (cI, 71, .inl s)), (pa, .inl (cI, 284, .inl past)), (er, .inl (cI, 3, .inl err)), (na, .inl (cJ, 5, .inr (.inl e)))]) (va_runS (As := [.int y, .int 0, .int 25]) (rest := []) ⟨hx, hb, hml, hown, hts⟩ (k_X4_in l D cI cM cJ _ y 0 25) (va_cwS 3 hts gX4_setGate_X4_in rfl rfl rfl (by decide +kernel) ⟨Nat.le_of_ble_eq_true rfl, Nat.le_of_ble_eq_true rfl⟩) (kp_preS (wc := []) (wr := [(h, .inr (4, [.ref sa, .ref pa, .int (nI p), .ref er, .ref na, .long (e 5), .long (e 6), .long (e 7), .long hs])), (sa, .inl (cI, 71, .inl s)), (pa, .inl (cI, 284, .inl past)), (er, .inl (cI, 3, .inl err)), (na, .inl (cJ, 5, .inr (.inl e)))]) hN hK hP hD) rfl rfl hl.1 rfl (lv_room (Nat.le_of_ble_eq_true rfl)) dX4_setGate_4 ⟨Nat.le_of_ble_eq_true rfl, Nat.le_of_ble_eq_true rfl⟩) hP hD hS hA (fun r_1 u_1 H locs p_1 hP hD hS => ?_)
  rcases p_1 with ⟨p_1, rfl⟩ | ⟨p_1, rfl⟩
  · have hP : va_P D vwCl ([(h, .inr (4, [.ref sa, .ref pa, .int (nI p), .ref er, .ref na, .long (e 5), .long (e 6), .long (e 7), .long hs])), (sa, .inl (cI, 71, .inl s)), (pa, .inl (cI, 284, .inl past)), (er, .inl (cI, 3, .inl err)), (na, .inl (cJ, 5, .inr (.inl e)))]) H := hP
    have hD : va_D A ([(h, .inr (4, [.ref sa, .ref pa, .int (nI p), .ref er, .ref na, .long (e 5), .long (e 6), .long (e 7), .long hs])), (sa, .inl (cI, 71, .inl s)), (pa, .inl (cI, 284, .inl past)), (er, .inl (cI, 3, .inl err)), (na, .inl (cJ, 5, .inr (.inl e)))]) := hD
    refine lv_if_ne (tgt := 17) hx hb dX4_setGate_7 (by decide) (fun c_2 => ?_) (fun c_2 => ?_)
    · skip
      refine lv_aload_n hx hb dX4_setGate_17 rfl (lv_at hl 0 rfl) ?_
      refine kc_v (wc := [(h, .inr (4, [.ref sa, .ref pa, .int (nI p), .ref er, .ref na, .long (e 5), .long (e 6), .long (e 7), .long hs])), (sa, .inl (cI, 71, .inl s)), (pa, .inl (cI, 284, .inl past))]) (wr := [(er, .inl (cI, 3, .inl err)), (na, .inl (cJ, 5, .inr (.inl e)))]) (va_runV (As := []) (rest := []) ⟨hx, hb, hml, hown, hts⟩ (k_X4_note l D cI cM cJ _ h sa pa er na p (e 5) (e 6) (e 7) hs s past hp) (cwV 0 hts gX4_setGate_X4_note rfl rfl rfl (by decide +kernel) ⟨Nat.le_of_ble_eq_true rfl, Nat.le_of_ble_eq_true rfl⟩) (kp_preV (q := (RX4, TX4, 9)) (wc := [(h, .inr (4, [.ref sa, .ref pa, .int (nI p), .ref er, .ref na, .long (e 5), .long (e 6), .long (e 7), .long hs])), (sa, .inl (cI, 71, .inl s)), (pa, .inl (cI, 284, .inl past))]) (wr := [(er, .inl (cI, 3, .inl err)), (na, .inl (cJ, 5, .inr (.inl e)))]) hN hK hP hD 0 rfl rfl) rfl rfl hl.1 rfl (lv_room (Nat.le_of_ble_eq_true rfl)) dX4_setGate_18 ⟨Nat.le_of_ble_eq_true rfl, Nat.le_of_ble_eq_true rfl⟩) hP hD hS hA (fun u_3 H locs p_3 hP hD hS => ?_)
      have hP : va_P D vwCl ([(h, .inr (4, [.ref sa, .ref pa, .int (nI (tk_np p)), .ref er, .ref na, .long (e 5), .long (e 6), .long (e 7), .long hs])), (sa, .inl (cI, 71, .inl s)), (pa, .inl (cI, 284, .inl (tk_nP past p s))), (er, .inl (cI, 3, .inl err)), (na, .inl (cJ, 5, .inr (.inl e)))]) H := hP
      have hD : va_D A ([(h, .inr (4, [.ref sa, .ref pa, .int (nI (tk_np p)), .ref er, .ref na, .long (e 5), .long (e 6), .long (e 7), .long hs])), (sa, .inl (cI, 71, .inl s)), (pa, .inl (cI, 284, .inl (tk_nP past p s))), (er, .inl (cI, 3, .inl err)), (na, .inl (cJ, 5, .inr (.inl e)))]) := hD
      refine lv_aload_n hx hb dX4_setGate_21 rfl (lv_at hl 0 rfl) ?_
      refine va_get (D := D) (ci := 4) (v := .ref sa) (C := RX4) (T := TX4) (N := 9) hx hb hts izX4_setGate_4 hown hK hP 0 rfl rfl 0 (by decide) (hm 2 (.fieldLink RX4 7 "TankFilterModel" "s" "[I") rfl) (fun _ h9 => h9) rfl dX4_setGate_22 ?_
      refine lv_bipush (v := 7) hx hb dX4_setGate_25 (by decide) ?_
      refine ka_ild (D := D) (j := 7) (n := 71) (f := s) hx hb hK hP 1 0 rfl rfl (rfl) (by decide) (by decide) dX4_setGate_27 ?_
      refine lv_istore_n (lv' := [(2, .int (s 7)), (0, .ref h), (1, .int y)]) hx hb dX4_setGate_28 rfl hl (by decide) rfl (fun ls hl => ?_)
      refine lv_aload_n hx hb dX4_setGate_29 rfl (lv_at hl 1 rfl) ?_
      refine va_get (D := D) (ci := 4) (v := .ref sa) (C := RX4) (T := TX4) (N := 9) hx hb hts izX4_setGate_4 hown hK hP 0 rfl rfl 0 (by decide) (hm 2 (.fieldLink RX4 7 "TankFilterModel" "s" "[I") rfl) (fun _ h9 => h9) rfl dX4_setGate_30 ?_
      refine lv_bipush (v := 7) hx hb dX4_setGate_33 (by decide) ?_
      refine lv_iload_n hx hb dX4_setGate_35 rfl (lv_at hl 2 rfl) ?_
      refine ka_ist (D := D) (j := 7) (n := 71) (f := s) hx hb hK hP hD hS 1 0 rfl rfl (rfl) (by decide) (by decide) dX4_setGate_36 (fun H locs hP hD hS => ?_)
      have hP : va_P D vwCl ([(h, .inr (4, [.ref sa, .ref pa, .int (nI (tk_np p)), .ref er, .ref na, .long (e 5), .long (e 6), .long (e 7), .long hs])), (sa, .inl (cI, 71, .inl (upd s 7 y))), (pa, .inl (cI, 284, .inl (tk_nP past p s))), (er, .inl (cI, 3, .inl err)), (na, .inl (cJ, 5, .inr (.inl e)))]) H := hP
      have hD : va_D A ([(h, .inr (4, [.ref sa, .ref pa, .int (nI (tk_np p)), .ref er, .ref na, .long (e 5), .long (e 6), .long (e 7), .long hs])), (sa, .inl (cI, 71, .inl (upd s 7 y))), (pa, .inl (cI, 284, .inl (tk_nP past p s))), (er, .inl (cI, 3, .inl err)), (na, .inl (cJ, 5, .inr (.inl e)))]) := hD
      refine lv_iload_n hx hb dX4_setGate_37 rfl (lv_at hl 0 rfl) ?_
      have hyf : yf_setGate (p, s, past, err) y = (s 7, tk_nv (p, s, past, err) (upd s 7 y)) := by rw [yf_setGate, if_pos p_1]
      exact W.iret (v := s 7) hx hb hr (fun zt ht hW => ⟨⟨s 7, (tk_nv (p, s, past, err) (upd s 7 y), e, hs), rfl, ⟨by rw [hyf], by rw [hyf]⟩, KB.of hAe (by rw [ht]; exact hP) hD⟩, hS.F ht⟩) hS.2.2 dX4_setGate_38
    · exact absurd c_2 (by decide)
  · have hP : va_P D vwCl ([(h, .inr (4, [.ref sa, .ref pa, .int (nI p), .ref er, .ref na, .long (e 5), .long (e 6), .long (e 7), .long hs])), (sa, .inl (cI, 71, .inl s)), (pa, .inl (cI, 284, .inl past)), (er, .inl (cI, 3, .inl err)), (na, .inl (cJ, 5, .inr (.inl e)))]) H := hP
    have hD : va_D A ([(h, .inr (4, [.ref sa, .ref pa, .int (nI p), .ref er, .ref na, .long (e 5), .long (e 6), .long (e 7), .long hs])), (sa, .inl (cI, 71, .inl s)), (pa, .inl (cI, 284, .inl past)), (er, .inl (cI, 3, .inl err)), (na, .inl (cJ, 5, .inr (.inl e)))]) := hD
    refine lv_if_ne (tgt := 17) hx hb dX4_setGate_7 (by decide) (fun c_4 => ?_) (fun c_4 => ?_)
    · exact absurd c_4 (by decide)
    · skip
      refine lv_aload_n hx hb dX4_setGate_10 rfl (lv_at hl 0 rfl) ?_
      refine lv_ldc (v := -2000000002) hx hb hown (hm 1 (.constant RX4 26 (-2000000002)) rfl) dX4_setGate_11 ?_
      obtain ⟨hP, hD⟩ := kp_sub (ws' := [(h, .inr (4, [.ref sa, .ref pa, .int (nI p), .ref er, .ref na, .long (e 5), .long (e 6), .long (e 7), .long hs])), (er, .inl (cI, 3, .inl err)), (sa, .inl (cI, 71, .inl s)), (pa, .inl (cI, 284, .inl past)), (na, .inl (cJ, 5, .inr (.inl e)))]) hP hD [0, 3, 1, 2, 4] (by decide) rfl
      refine kc_i (wc := [(h, .inr (4, [.ref sa, .ref pa, .int (nI p), .ref er, .ref na, .long (e 5), .long (e 6), .long (e 7), .long hs])), (er, .inl (cI, 3, .inl err))]) (wr := [(sa, .inl (cI, 71, .inl s)), (pa, .inl (cI, 284, .inl past)), (na, .inl (cJ, 5, .inr (.inl e)))]) (va_runV (As := [.int (-2000000002)]) (rest := []) ⟨hx, hb, hml, hown, hts⟩ (k_X4_fail l D cI cM cJ _ h sa pa er na (nI p) (e 5) (e 6) (e 7) hs err (-2000000002) 0 (by decide) (by decide)) (cwV 1 hts gX4_setGate_X4_fail rfl rfl rfl (by decide +kernel) ⟨Nat.le_of_ble_eq_true rfl, Nat.le_of_ble_eq_true rfl⟩) (kp_preV (q := (RX4, TX4, 9)) (wc := [(h, .inr (4, [.ref sa, .ref pa, .int (nI p), .ref er, .ref na, .long (e 5), .long (e 6), .long (e 7), .long hs])), (er, .inl (cI, 3, .inl err))]) (wr := [(sa, .inl (cI, 71, .inl s)), (pa, .inl (cI, 284, .inl past)), (na, .inl (cJ, 5, .inr (.inl e)))]) hN hK hP hD 0 rfl rfl) rfl rfl hl.1 rfl (lv_room (Nat.le_of_ble_eq_true rfl)) dX4_setGate_13 ⟨Nat.le_of_ble_eq_true rfl, Nat.le_of_ble_eq_true rfl⟩) hP hD hS hA (fun r_5 u_5 H locs p_5 hP hD hS => ?_)
      obtain rfl : r_5 = (-2000000002) := p_5
      obtain ⟨hP, hD⟩ := kp_sub (ws' := [(h, .inr (4, [.ref sa, .ref pa, .int (nI p), .ref er, .ref na, .long (e 5), .long (e 6), .long (e 7), .long hs])), (sa, .inl (cI, 71, .inl s)), (pa, .inl (cI, 284, .inl past)), (er, .inl (cI, 3, .inl (upd err 0 (err 0 + 1)))), (na, .inl (cJ, 5, .inr (.inl e)))]) (ws := [(h, .inr (4, [.ref sa, .ref pa, .int (nI p), .ref er, .ref na, .long (e 5), .long (e 6), .long (e 7), .long hs])), (er, .inl (cI, 3, .inl (upd err 0 (err 0 + 1)))), (sa, .inl (cI, 71, .inl s)), (pa, .inl (cI, 284, .inl past)), (na, .inl (cJ, 5, .inr (.inl e)))]) hP hD [0, 2, 3, 1, 4] (by decide) rfl
      have hP : va_P D vwCl ([(h, .inr (4, [.ref sa, .ref pa, .int (nI p), .ref er, .ref na, .long (e 5), .long (e 6), .long (e 7), .long hs])), (sa, .inl (cI, 71, .inl s)), (pa, .inl (cI, 284, .inl past)), (er, .inl (cI, 3, .inl (upd err 0 (err 0 + 1)))), (na, .inl (cJ, 5, .inr (.inl e)))]) H := hP
      have hD : va_D A ([(h, .inr (4, [.ref sa, .ref pa, .int (nI p), .ref er, .ref na, .long (e 5), .long (e 6), .long (e 7), .long hs])), (sa, .inl (cI, 71, .inl s)), (pa, .inl (cI, 284, .inl past)), (er, .inl (cI, 3, .inl (upd err 0 (err 0 + 1)))), (na, .inl (cJ, 5, .inr (.inl e)))]) := hD
      have hyf : yf_setGate (p, s, past, err) y = ((-2000000002), tk_yl (p, s, past, err) 0) := by rw [yf_setGate, if_neg p_1]
      exact W.iret (v := (-2000000002)) hx hb hr (fun zt ht hW => ⟨⟨(-2000000002), (tk_yl (p, s, past, err) 0, e, hs), rfl, ⟨by rw [hyf], by rw [hyf]⟩, KB.of hAe (by rw [ht]; exact hP) hD⟩, hS.F ht⟩) hS.2.2 dX4_setGate_16

def yf_setProcessNoise (Y : tk_Y) (y z : Int32) : Int32 × tk_Y := if tk_rng 0 4096000 y ∧ tk_rng 0 4096000 z then (Y.2.1 6, tk_nv Y (upd (upd Y.2.1 5 y) 6 z)) else (-2000000002, tk_yl Y 0)

theorem izX4_setProcessNoise_4 : ∀ w ∈ wsX40, w ∈ wsX4_setProcessNoise := fun _ h => List.mem_cons_of_mem _ (List.mem_append_right _ h)
set_option maxHeartbeats 4000000 in
set_option maxRecDepth 100000 in
/-- setProcessNoise -/
theorem k_X4_setProcessNoise (l : Launch) (D : va_G) (cI cM cJ : ClassId) (sz : Nat) (h sa pa er na : Nat) (p : Nat) (s past err : Nat → Int32) (e : Nat → Int64) (hs : Int64) (y z : Int32) (hp : p ≤ 4) : Met l yX4_setProcessNoise wsX4_setProcessNoise ({ frames := 1, cells := 0, slots := 0, locals := 22 }) (va_Pc [.ref h, .int y, .int z] (KP D (tk_T cI cM cJ) ([(h, .inr (4, [.ref sa, .ref pa, .int (nI p), .ref er, .ref na, .long (e 5), .long (e 6), .long (e 7), .long hs])), (sa, .inl (cI, 71, .inl s)), (pa, .inl (cI, 284, .inl past)), (er, .inl (cI, 3, .inl err)), (na, .inl (cJ, 5, .inr (.inl e)))]) sz)) (va_Qi (fun (r : Int32) (u : tk_Y × (Nat → Int64) × Int64) => r = (yf_setProcessNoise (p, s, past, err) y z).1 ∧ u.1 = (yf_setProcessNoise (p, s, past, err) y z).2) (fun u zt => KB D ([(h, .inr (4, [.ref sa, .ref pa, .int (nI p), .ref er, .ref na, .long (e 5), .long (e 6), .long (e 7), .long hs])), (sa, .inl (cI, 71, .inl s)), (pa, .inl (cI, 284, .inl past)), (er, .inl (cI, 3, .inl err)), (na, .inl (cJ, 5, .inr (.inl e)))]) ([(h, .inr (4, [.ref sa, .ref pa, .int (nI u.1.1), .ref er, .ref na, .long (u.2.1 5), .long (u.2.1 6), .long (u.2.1 7), .long u.2.2])), (sa, .inl (cI, 71, .inl u.1.2.1)), (pa, .inl (cI, 284, .inl u.1.2.2.1)), (er, .inl (cI, 3, .inl u.1.2.2.2)), (na, .inl (cJ, 5, .inr (.inl u.2.1)))]) sz zt) (va_A ([(h, .inr (4, [.ref sa, .ref pa, .int (nI p), .ref er, .ref na, .long (e 5), .long (e 6), .long (e 7), .long hs])), (sa, .inl (cI, 71, .inl s)), (pa, .inl (cI, 284, .inl past)), (er, .inl (cI, 3, .inl err)), (na, .inl (cJ, 5, .inr (.inl e)))]) sz)) 0 0 (va_A ([(h, .inr (4, [.ref sa, .ref pa, .int (nI p), .ref er, .ref na, .long (e 5), .long (e 6), .long (e 7), .long hs])), (sa, .inl (cI, 71, .inl s)), (pa, .inl (cI, 284, .inl past)), (er, .inl (cI, 3, .inl err)), (na, .inl (cJ, 5, .inr (.inl e)))]) sz) := by
  refine Met.ofW (cc := cX4_setProcessNoise) (maxL := 4) (ret := (some .int)) (by decide) rfl ?_
  intro zp ze zs zm zargs zbelow zmeth zc zs1 B hml hv
  obtain ⟨rfl, hsz, hP, hK, hD0, hN⟩ := hv
  have hx := B.exec
  have hb := B.bytes
  have hr := B.returns
  have hts := atoms_spec (ws := wsX4_setProcessNoise) B.pre
  have hm : ∀ (i : Nat) (w : Cond), wsX4_setProcessNoise[i]? = some w → w.before _ zs = true := fun i w h => hts w (List.mem_of_getElem? h)
  have hown : zs.vm.findClass RX4 = some zm.cls := findClass_of_methodNamed B.named
  have hlocks := B.notSynchronized
  subst hsz
  have hD := hD0.self (sz := zs.heap.size)
  generalize hAe : va_A ([(h, .inr (4, [.ref sa, .ref pa, .int (nI p), .ref er, .ref na, .long (e 5), .long (e 6), .long (e 7), .long hs])), (sa, .inl (cI, 71, .inl s)), (pa, .inl (cI, 284, .inl past)), (er, .inl (cI, 3, .inl err)), (na, .inl (cJ, 5, .inr (.inl e)))]) zs.heap.size = A at hD ⊢
  have hA : ∀ q : Nat, zs.heap.size ≤ q → A q := fun q h => by rw [← hAe]; exact Or.inr h
  have hS : va_S A zs.heap zs.heap [] := va_S.rf
  have hP : va_P D vwCl ([(h, .inr (4, [.ref sa, .ref pa, .int (nI p), .ref er, .ref na, .long (e 5), .long (e 6), .long (e 7), .long hs])), (sa, .inl (cI, 71, .inl s)), (pa, .inl (cI, 284, .inl past)), (er, .inl (cI, 3, .inl err)), (na, .inl (cJ, 5, .inr (.inl e)))]) zs.heap := hP
  have hl := lv_entry ([.ref h, .int y, .int z]) (n := 4) (Nat.le_of_ble_eq_true rfl)
  rw [lg_entry_eq]
  generalize (lg_sl ([.ref h, .int y, .int z]) ++ List.replicate (4 - (lg_sl ([.ref h, .int y, .int z])).length) Slot.unset).toArray = ls at hl ⊢
  have hl : lv_has ls 4 [(0, .ref h), (1, .int y), (2, .int z)] := hl
  refine lv_iload_n hx hb dX4_setProcessNoise_0 rfl (lv_at hl 1 rfl) ?_
  refine lv_iconst (v := 0) hx hb dX4_setProcessNoise_1 (by decide) ?_
  refine lv_ldc (v := 4096000) hx hb hown (hm 1 (.constant RX4 73 (4096000)) rfl) dX4_setProcessNoise_2 ?_
  refine kc_i (wc := []) (wr := [(h, .inr (4, [.ref sa, .ref pa, .int (nI p), .ref er, .ref na, .long (e 5), .long (e 6), .long (e 7), .long hs])), (sa, .inl (cI, 71, .inl s)), (pa, .inl (cI, 284, .inl past)), (er, .inl (cI, 3, .inl err)), (na, .inl (cJ, 5, .inr (.inl e)))]) (va_runS (As := [.int y, .int 0, .int 4096000]) (rest := []) ⟨hx, hb, hml, hown, hts⟩ (k_X4_in l D cI cM cJ _ y 0 4096000) (va_cwS 3 hts gX4_setProcessNoise_X4_in rfl rfl rfl (by decide +kernel) ⟨Nat.le_of_ble_eq_true rfl, Nat.le_of_ble_eq_true rfl⟩) (kp_preS (wc := []) (wr := [(h, .inr (4, [.ref sa, .ref pa, .int (nI p), .ref er, .ref na, .long (e 5), .long (e 6), .long (e 7), .long hs])), (sa, .inl (cI, 71, .inl s)), (pa, .inl (cI, 284, .inl past)), (er, .inl (cI, 3, .inl err)), (na, .inl (cJ, 5, .inr (.inl e)))]) hN hK hP hD) rfl rfl hl.1 rfl (lv_room (Nat.le_of_ble_eq_true rfl)) dX4_setProcessNoise_4 ⟨Nat.le_of_ble_eq_true rfl, Nat.le_of_ble_eq_true rfl⟩) hP hD hS hA (fun r_1 u_1 H locs p_1 hP hD hS => ?_)
  rcases p_1 with ⟨p_1, rfl⟩ | ⟨p_1, rfl⟩
  · have hP : va_P D vwCl ([(h, .inr (4, [.ref sa, .ref pa, .int (nI p), .ref er, .ref na, .long (e 5), .long (e 6), .long (e 7), .long hs])), (sa, .inl (cI, 71, .inl s)), (pa, .inl (cI, 284, .inl past)), (er, .inl (cI, 3, .inl err)), (na, .inl (cJ, 5, .inr (.inl e)))]) H := hP
    have hD : va_D A ([(h, .inr (4, [.ref sa, .ref pa, .int (nI p), .ref er, .ref na, .long (e 5), .long (e 6), .long (e 7), .long hs])), (sa, .inl (cI, 71, .inl s)), (pa, .inl (cI, 284, .inl past)), (er, .inl (cI, 3, .inl err)), (na, .inl (cJ, 5, .inr (.inl e)))]) := hD
    refine lv_if_eq (tgt := 20) hx hb dX4_setProcessNoise_7 (by decide) (fun c_2 => ?_) (fun c_2 => ?_)
    · exact absurd c_2 (by decide)
    · skip
      refine lv_iload_n hx hb dX4_setProcessNoise_10 rfl (lv_at hl 2 rfl) ?_
      refine lv_iconst (v := 0) hx hb dX4_setProcessNoise_11 (by decide) ?_
      refine lv_ldc (v := 4096000) hx hb hown (hm 1 (.constant RX4 73 (4096000)) rfl) dX4_setProcessNoise_12 ?_
      refine kc_i (wc := []) (wr := [(h, .inr (4, [.ref sa, .ref pa, .int (nI p), .ref er, .ref na, .long (e 5), .long (e 6), .long (e 7), .long hs])), (sa, .inl (cI, 71, .inl s)), (pa, .inl (cI, 284, .inl past)), (er, .inl (cI, 3, .inl err)), (na, .inl (cJ, 5, .inr (.inl e)))]) (va_runS (As := [.int z, .int 0, .int 4096000]) (rest := []) ⟨hx, hb, hml, hown, hts⟩ (k_X4_in l D cI cM cJ _ z 0 4096000) (va_cwS 3 hts gX4_setProcessNoise_X4_in rfl rfl rfl (by decide +kernel) ⟨Nat.le_of_ble_eq_true rfl, Nat.le_of_ble_eq_true rfl⟩) (kp_preS (wc := []) (wr := [(h, .inr (4, [.ref sa, .ref pa, .int (nI p), .ref er, .ref na, .long (e 5), .long (e 6), .long (e 7), .long hs])), (sa, .inl (cI, 71, .inl s)), (pa, .inl (cI, 284, .inl past)), (er, .inl (cI, 3, .inl err)), (na, .inl (cJ, 5, .inr (.inl e)))]) hN hK hP hD) rfl rfl hl.1 rfl (lv_room (Nat.le_of_ble_eq_true rfl)) dX4_setProcessNoise_14 ⟨Nat.le_of_ble_eq_true rfl, Nat.le_of_ble_eq_true rfl⟩) hP hD hS hA (fun r_3 u_3 H locs p_3 hP hD hS => ?_)
      rcases p_3 with ⟨p_3, rfl⟩ | ⟨p_3, rfl⟩
      · have hP : va_P D vwCl ([(h, .inr (4, [.ref sa, .ref pa, .int (nI p), .ref er, .ref na, .long (e 5), .long (e 6), .long (e 7), .long hs])), (sa, .inl (cI, 71, .inl s)), (pa, .inl (cI, 284, .inl past)), (er, .inl (cI, 3, .inl err)), (na, .inl (cJ, 5, .inr (.inl e)))]) H := hP
        have hD : va_D A ([(h, .inr (4, [.ref sa, .ref pa, .int (nI p), .ref er, .ref na, .long (e 5), .long (e 6), .long (e 7), .long hs])), (sa, .inl (cI, 71, .inl s)), (pa, .inl (cI, 284, .inl past)), (er, .inl (cI, 3, .inl err)), (na, .inl (cJ, 5, .inr (.inl e)))]) := hD
        refine lv_if_ne (tgt := 27) hx hb dX4_setProcessNoise_17 (by decide) (fun c_4 => ?_) (fun c_4 => ?_)
        · skip
          refine lv_aload_n hx hb dX4_setProcessNoise_27 rfl (lv_at hl 0 rfl) ?_
          refine kc_v (wc := [(h, .inr (4, [.ref sa, .ref pa, .int (nI p), .ref er, .ref na, .long (e 5), .long (e 6), .long (e 7), .long hs])), (sa, .inl (cI, 71, .inl s)), (pa, .inl (cI, 284, .inl past))]) (wr := [(er, .inl (cI, 3, .inl err)), (na, .inl (cJ, 5, .inr (.inl e)))]) (va_runV (As := []) (rest := []) ⟨hx, hb, hml, hown, hts⟩ (k_X4_note l D cI cM cJ _ h sa pa er na p (e 5) (e 6) (e 7) hs s past hp) (cwV 0 hts gX4_setProcessNoise_X4_note rfl rfl rfl (by decide +kernel) ⟨Nat.le_of_ble_eq_true rfl, Nat.le_of_ble_eq_true rfl⟩) (kp_preV (q := (RX4, TX4, 9)) (wc := [(h, .inr (4, [.ref sa, .ref pa, .int (nI p), .ref er, .ref na, .long (e 5), .long (e 6), .long (e 7), .long hs])), (sa, .inl (cI, 71, .inl s)), (pa, .inl (cI, 284, .inl past))]) (wr := [(er, .inl (cI, 3, .inl err)), (na, .inl (cJ, 5, .inr (.inl e)))]) hN hK hP hD 0 rfl rfl) rfl rfl hl.1 rfl (lv_room (Nat.le_of_ble_eq_true rfl)) dX4_setProcessNoise_28 ⟨Nat.le_of_ble_eq_true rfl, Nat.le_of_ble_eq_true rfl⟩) hP hD hS hA (fun u_5 H locs p_5 hP hD hS => ?_)
          have hP : va_P D vwCl ([(h, .inr (4, [.ref sa, .ref pa, .int (nI (tk_np p)), .ref er, .ref na, .long (e 5), .long (e 6), .long (e 7), .long hs])), (sa, .inl (cI, 71, .inl s)), (pa, .inl (cI, 284, .inl (tk_nP past p s))), (er, .inl (cI, 3, .inl err)), (na, .inl (cJ, 5, .inr (.inl e)))]) H := hP
          have hD : va_D A ([(h, .inr (4, [.ref sa, .ref pa, .int (nI (tk_np p)), .ref er, .ref na, .long (e 5), .long (e 6), .long (e 7), .long hs])), (sa, .inl (cI, 71, .inl s)), (pa, .inl (cI, 284, .inl (tk_nP past p s))), (er, .inl (cI, 3, .inl err)), (na, .inl (cJ, 5, .inr (.inl e)))]) := hD
          refine lv_aload_n hx hb dX4_setProcessNoise_31 rfl (lv_at hl 0 rfl) ?_
          refine va_get (D := D) (ci := 4) (v := .ref sa) (C := RX4) (T := TX4) (N := 9) hx hb hts izX4_setProcessNoise_4 hown hK hP 0 rfl rfl 0 (by decide) (hm 3 (.fieldLink RX4 7 "TankFilterModel" "s" "[I") rfl) (fun _ h9 => h9) rfl dX4_setProcessNoise_32 ?_
          refine lv_bipush (v := 6) hx hb dX4_setProcessNoise_35 (by decide) ?_
          refine ka_ild (D := D) (j := 6) (n := 71) (f := s) hx hb hK hP 1 0 rfl rfl (rfl) (by decide) (by decide) dX4_setProcessNoise_37 ?_
          refine lv_istore_n (lv' := [(3, .int (s 6)), (0, .ref h), (1, .int y), (2, .int z)]) hx hb dX4_setProcessNoise_38 rfl hl (by decide) rfl (fun ls hl => ?_)
          refine lv_aload_n hx hb dX4_setProcessNoise_39 rfl (lv_at hl 1 rfl) ?_
          refine va_get (D := D) (ci := 4) (v := .ref sa) (C := RX4) (T := TX4) (N := 9) hx hb hts izX4_setProcessNoise_4 hown hK hP 0 rfl rfl 0 (by decide) (hm 3 (.fieldLink RX4 7 "TankFilterModel" "s" "[I") rfl) (fun _ h9 => h9) rfl dX4_setProcessNoise_40 ?_
          refine lv_iconst (v := 5) hx hb dX4_setProcessNoise_43 (by decide) ?_
          refine lv_iload_n hx hb dX4_setProcessNoise_44 rfl (lv_at hl 2 rfl) ?_
          refine ka_ist (D := D) (j := 5) (n := 71) (f := s) hx hb hK hP hD hS 1 0 rfl rfl (rfl) (by decide) (by decide) dX4_setProcessNoise_45 (fun H locs hP hD hS => ?_)
          have hP : va_P D vwCl ([(h, .inr (4, [.ref sa, .ref pa, .int (nI (tk_np p)), .ref er, .ref na, .long (e 5), .long (e 6), .long (e 7), .long hs])), (sa, .inl (cI, 71, .inl (upd s 5 y))), (pa, .inl (cI, 284, .inl (tk_nP past p s))), (er, .inl (cI, 3, .inl err)), (na, .inl (cJ, 5, .inr (.inl e)))]) H := hP
          have hD : va_D A ([(h, .inr (4, [.ref sa, .ref pa, .int (nI (tk_np p)), .ref er, .ref na, .long (e 5), .long (e 6), .long (e 7), .long hs])), (sa, .inl (cI, 71, .inl (upd s 5 y))), (pa, .inl (cI, 284, .inl (tk_nP past p s))), (er, .inl (cI, 3, .inl err)), (na, .inl (cJ, 5, .inr (.inl e)))]) := hD
          refine lv_aload_n hx hb dX4_setProcessNoise_46 rfl (lv_at hl 1 rfl) ?_
          refine va_get (D := D) (ci := 4) (v := .ref sa) (C := RX4) (T := TX4) (N := 9) hx hb hts izX4_setProcessNoise_4 hown hK hP 0 rfl rfl 0 (by decide) (hm 3 (.fieldLink RX4 7 "TankFilterModel" "s" "[I") rfl) (fun _ h9 => h9) rfl dX4_setProcessNoise_47 ?_
          refine lv_bipush (v := 6) hx hb dX4_setProcessNoise_50 (by decide) ?_
          refine lv_iload_n hx hb dX4_setProcessNoise_52 rfl (lv_at hl 3 rfl) ?_
          refine ka_ist (D := D) (j := 6) (n := 71) (f := upd s 5 y) hx hb hK hP hD hS 1 0 rfl rfl (rfl) (by decide) (by decide) dX4_setProcessNoise_53 (fun H locs hP hD hS => ?_)
          have hP : va_P D vwCl ([(h, .inr (4, [.ref sa, .ref pa, .int (nI (tk_np p)), .ref er, .ref na, .long (e 5), .long (e 6), .long (e 7), .long hs])), (sa, .inl (cI, 71, .inl (upd (upd s 5 y) 6 z))), (pa, .inl (cI, 284, .inl (tk_nP past p s))), (er, .inl (cI, 3, .inl err)), (na, .inl (cJ, 5, .inr (.inl e)))]) H := hP
          have hD : va_D A ([(h, .inr (4, [.ref sa, .ref pa, .int (nI (tk_np p)), .ref er, .ref na, .long (e 5), .long (e 6), .long (e 7), .long hs])), (sa, .inl (cI, 71, .inl (upd (upd s 5 y) 6 z))), (pa, .inl (cI, 284, .inl (tk_nP past p s))), (er, .inl (cI, 3, .inl err)), (na, .inl (cJ, 5, .inr (.inl e)))]) := hD
          refine lv_iload_n hx hb dX4_setProcessNoise_54 rfl (lv_at hl 0 rfl) ?_
          have hyf : yf_setProcessNoise (p, s, past, err) y z = (s 6, tk_nv (p, s, past, err) (upd (upd s 5 y) 6 z)) := by rw [yf_setProcessNoise, if_pos ⟨p_1, p_3⟩]
          exact W.iret (v := s 6) hx hb hr (fun zt ht hW => ⟨⟨s 6, (tk_nv (p, s, past, err) (upd (upd s 5 y) 6 z), e, hs), rfl, ⟨by rw [hyf], by rw [hyf]⟩, KB.of hAe (by rw [ht]; exact hP) hD⟩, hS.F ht⟩) hS.2.2 dX4_setProcessNoise_55
        · exact absurd c_4 (by decide)
      · have hP : va_P D vwCl ([(h, .inr (4, [.ref sa, .ref pa, .int (nI p), .ref er, .ref na, .long (e 5), .long (e 6), .long (e 7), .long hs])), (sa, .inl (cI, 71, .inl s)), (pa, .inl (cI, 284, .inl past)), (er, .inl (cI, 3, .inl err)), (na, .inl (cJ, 5, .inr (.inl e)))]) H := hP
        have hD : va_D A ([(h, .inr (4, [.ref sa, .ref pa, .int (nI p), .ref er, .ref na, .long (e 5), .long (e 6), .long (e 7), .long hs])), (sa, .inl (cI, 71, .inl s)), (pa, .inl (cI, 284, .inl past)), (er, .inl (cI, 3, .inl err)), (na, .inl (cJ, 5, .inr (.inl e)))]) := hD
        refine lv_if_ne (tgt := 27) hx hb dX4_setProcessNoise_17 (by decide) (fun c_6 => ?_) (fun c_6 => ?_)
        · exact absurd c_6 (by decide)
        · skip
          refine lv_aload_n hx hb dX4_setProcessNoise_20 rfl (lv_at hl 0 rfl) ?_
          refine lv_ldc (v := -2000000002) hx hb hown (hm 2 (.constant RX4 26 (-2000000002)) rfl) dX4_setProcessNoise_21 ?_
          obtain ⟨hP, hD⟩ := kp_sub (ws' := [(h, .inr (4, [.ref sa, .ref pa, .int (nI p), .ref er, .ref na, .long (e 5), .long (e 6), .long (e 7), .long hs])), (er, .inl (cI, 3, .inl err)), (sa, .inl (cI, 71, .inl s)), (pa, .inl (cI, 284, .inl past)), (na, .inl (cJ, 5, .inr (.inl e)))]) hP hD [0, 3, 1, 2, 4] (by decide) rfl
          refine kc_i (wc := [(h, .inr (4, [.ref sa, .ref pa, .int (nI p), .ref er, .ref na, .long (e 5), .long (e 6), .long (e 7), .long hs])), (er, .inl (cI, 3, .inl err))]) (wr := [(sa, .inl (cI, 71, .inl s)), (pa, .inl (cI, 284, .inl past)), (na, .inl (cJ, 5, .inr (.inl e)))]) (va_runV (As := [.int (-2000000002)]) (rest := []) ⟨hx, hb, hml, hown, hts⟩ (k_X4_fail l D cI cM cJ _ h sa pa er na (nI p) (e 5) (e 6) (e 7) hs err (-2000000002) 0 (by decide) (by decide)) (cwV 1 hts gX4_setProcessNoise_X4_fail rfl rfl rfl (by decide +kernel) ⟨Nat.le_of_ble_eq_true rfl, Nat.le_of_ble_eq_true rfl⟩) (kp_preV (q := (RX4, TX4, 9)) (wc := [(h, .inr (4, [.ref sa, .ref pa, .int (nI p), .ref er, .ref na, .long (e 5), .long (e 6), .long (e 7), .long hs])), (er, .inl (cI, 3, .inl err))]) (wr := [(sa, .inl (cI, 71, .inl s)), (pa, .inl (cI, 284, .inl past)), (na, .inl (cJ, 5, .inr (.inl e)))]) hN hK hP hD 0 rfl rfl) rfl rfl hl.1 rfl (lv_room (Nat.le_of_ble_eq_true rfl)) dX4_setProcessNoise_23 ⟨Nat.le_of_ble_eq_true rfl, Nat.le_of_ble_eq_true rfl⟩) hP hD hS hA (fun r_7 u_7 H locs p_7 hP hD hS => ?_)
          obtain rfl : r_7 = (-2000000002) := p_7
          obtain ⟨hP, hD⟩ := kp_sub (ws' := [(h, .inr (4, [.ref sa, .ref pa, .int (nI p), .ref er, .ref na, .long (e 5), .long (e 6), .long (e 7), .long hs])), (sa, .inl (cI, 71, .inl s)), (pa, .inl (cI, 284, .inl past)), (er, .inl (cI, 3, .inl (upd err 0 (err 0 + 1)))), (na, .inl (cJ, 5, .inr (.inl e)))]) (ws := [(h, .inr (4, [.ref sa, .ref pa, .int (nI p), .ref er, .ref na, .long (e 5), .long (e 6), .long (e 7), .long hs])), (er, .inl (cI, 3, .inl (upd err 0 (err 0 + 1)))), (sa, .inl (cI, 71, .inl s)), (pa, .inl (cI, 284, .inl past)), (na, .inl (cJ, 5, .inr (.inl e)))]) hP hD [0, 2, 3, 1, 4] (by decide) rfl
          have hP : va_P D vwCl ([(h, .inr (4, [.ref sa, .ref pa, .int (nI p), .ref er, .ref na, .long (e 5), .long (e 6), .long (e 7), .long hs])), (sa, .inl (cI, 71, .inl s)), (pa, .inl (cI, 284, .inl past)), (er, .inl (cI, 3, .inl (upd err 0 (err 0 + 1)))), (na, .inl (cJ, 5, .inr (.inl e)))]) H := hP
          have hD : va_D A ([(h, .inr (4, [.ref sa, .ref pa, .int (nI p), .ref er, .ref na, .long (e 5), .long (e 6), .long (e 7), .long hs])), (sa, .inl (cI, 71, .inl s)), (pa, .inl (cI, 284, .inl past)), (er, .inl (cI, 3, .inl (upd err 0 (err 0 + 1)))), (na, .inl (cJ, 5, .inr (.inl e)))]) := hD
          have hyf : yf_setProcessNoise (p, s, past, err) y z = ((-2000000002), tk_yl (p, s, past, err) 0) := by rw [yf_setProcessNoise, if_neg (fun z => p_3 z.2)]
          exact W.iret (v := (-2000000002)) hx hb hr (fun zt ht hW => ⟨⟨(-2000000002), (tk_yl (p, s, past, err) 0, e, hs), rfl, ⟨by rw [hyf], by rw [hyf]⟩, KB.of hAe (by rw [ht]; exact hP) hD⟩, hS.F ht⟩) hS.2.2 dX4_setProcessNoise_26
  · have hP : va_P D vwCl ([(h, .inr (4, [.ref sa, .ref pa, .int (nI p), .ref er, .ref na, .long (e 5), .long (e 6), .long (e 7), .long hs])), (sa, .inl (cI, 71, .inl s)), (pa, .inl (cI, 284, .inl past)), (er, .inl (cI, 3, .inl err)), (na, .inl (cJ, 5, .inr (.inl e)))]) H := hP
    have hD : va_D A ([(h, .inr (4, [.ref sa, .ref pa, .int (nI p), .ref er, .ref na, .long (e 5), .long (e 6), .long (e 7), .long hs])), (sa, .inl (cI, 71, .inl s)), (pa, .inl (cI, 284, .inl past)), (er, .inl (cI, 3, .inl err)), (na, .inl (cJ, 5, .inr (.inl e)))]) := hD
    refine lv_if_eq (tgt := 20) hx hb dX4_setProcessNoise_7 (by decide) (fun c_8 => ?_) (fun c_8 => ?_)
    · skip
      refine lv_aload_n hx hb dX4_setProcessNoise_20 rfl (lv_at hl 0 rfl) ?_
      refine lv_ldc (v := -2000000002) hx hb hown (hm 2 (.constant RX4 26 (-2000000002)) rfl) dX4_setProcessNoise_21 ?_
      obtain ⟨hP, hD⟩ := kp_sub (ws' := [(h, .inr (4, [.ref sa, .ref pa, .int (nI p), .ref er, .ref na, .long (e 5), .long (e 6), .long (e 7), .long hs])), (er, .inl (cI, 3, .inl err)), (sa, .inl (cI, 71, .inl s)), (pa, .inl (cI, 284, .inl past)), (na, .inl (cJ, 5, .inr (.inl e)))]) hP hD [0, 3, 1, 2, 4] (by decide) rfl
      refine kc_i (wc := [(h, .inr (4, [.ref sa, .ref pa, .int (nI p), .ref er, .ref na, .long (e 5), .long (e 6), .long (e 7), .long hs])), (er, .inl (cI, 3, .inl err))]) (wr := [(sa, .inl (cI, 71, .inl s)), (pa, .inl (cI, 284, .inl past)), (na, .inl (cJ, 5, .inr (.inl e)))]) (va_runV (As := [.int (-2000000002)]) (rest := []) ⟨hx, hb, hml, hown, hts⟩ (k_X4_fail l D cI cM cJ _ h sa pa er na (nI p) (e 5) (e 6) (e 7) hs err (-2000000002) 0 (by decide) (by decide)) (cwV 1 hts gX4_setProcessNoise_X4_fail rfl rfl rfl (by decide +kernel) ⟨Nat.le_of_ble_eq_true rfl, Nat.le_of_ble_eq_true rfl⟩) (kp_preV (q := (RX4, TX4, 9)) (wc := [(h, .inr (4, [.ref sa, .ref pa, .int (nI p), .ref er, .ref na, .long (e 5), .long (e 6), .long (e 7), .long hs])), (er, .inl (cI, 3, .inl err))]) (wr := [(sa, .inl (cI, 71, .inl s)), (pa, .inl (cI, 284, .inl past)), (na, .inl (cJ, 5, .inr (.inl e)))]) hN hK hP hD 0 rfl rfl) rfl rfl hl.1 rfl (lv_room (Nat.le_of_ble_eq_true rfl)) dX4_setProcessNoise_23 ⟨Nat.le_of_ble_eq_true rfl, Nat.le_of_ble_eq_true rfl⟩) hP hD hS hA (fun r_9 u_9 H locs p_9 hP hD hS => ?_)
      obtain rfl : r_9 = (-2000000002) := p_9
      obtain ⟨hP, hD⟩ := kp_sub (ws' := [(h, .inr (4, [.ref sa, .ref pa, .int (nI p), .ref er, .ref na, .long (e 5), .long (e 6), .long (e 7), .long hs])), (sa, .inl (cI, 71, .inl s)), (pa, .inl (cI, 284, .inl past)), (er, .inl (cI, 3, .inl (upd err 0 (err 0 + 1)))), (na, .inl (cJ, 5, .inr (.inl e)))]) (ws := [(h, .inr (4, [.ref sa, .ref pa, .int (nI p), .ref er, .ref na, .long (e 5), .long (e 6), .long (e 7), .long hs])), (er, .inl (cI, 3, .inl (upd err 0 (err 0 + 1)))), (sa, .inl (cI, 71, .inl s)), (pa, .inl (cI, 284, .inl past)), (na, .inl (cJ, 5, .inr (.inl e)))]) hP hD [0, 2, 3, 1, 4] (by decide) rfl
      have hP : va_P D vwCl ([(h, .inr (4, [.ref sa, .ref pa, .int (nI p), .ref er, .ref na, .long (e 5), .long (e 6), .long (e 7), .long hs])), (sa, .inl (cI, 71, .inl s)), (pa, .inl (cI, 284, .inl past)), (er, .inl (cI, 3, .inl (upd err 0 (err 0 + 1)))), (na, .inl (cJ, 5, .inr (.inl e)))]) H := hP
      have hD : va_D A ([(h, .inr (4, [.ref sa, .ref pa, .int (nI p), .ref er, .ref na, .long (e 5), .long (e 6), .long (e 7), .long hs])), (sa, .inl (cI, 71, .inl s)), (pa, .inl (cI, 284, .inl past)), (er, .inl (cI, 3, .inl (upd err 0 (err 0 + 1)))), (na, .inl (cJ, 5, .inr (.inl e)))]) := hD
      have hyf : yf_setProcessNoise (p, s, past, err) y z = ((-2000000002), tk_yl (p, s, past, err) 0) := by rw [yf_setProcessNoise, if_neg (fun z => p_1 z.1)]
      exact W.iret (v := (-2000000002)) hx hb hr (fun zt ht hW => ⟨⟨(-2000000002), (tk_yl (p, s, past, err) 0, e, hs), rfl, ⟨by rw [hyf], by rw [hyf]⟩, KB.of hAe (by rw [ht]; exact hP) hD⟩, hS.F ht⟩) hS.2.2 dX4_setProcessNoise_26
    · exact absurd c_8 (by decide)

def yf_setSensor (Y : tk_Y) (x y z : Int32) : Int32 × tk_Y := if tk_rng 0 3 x ∧ tk_rng 0 1 y ∧ tk_rng 1 40960000 z then (Y.2.1 (12 + x.toNatClampNeg), tk_nv Y (upd (upd Y.2.1 (8 + x.toNatClampNeg) y) (12 + x.toNatClampNeg) z)) else (-2000000002, tk_yl Y 0)

theorem tk_ix (o : Nat) {x : Int32} (h : tk_rng 0 3 x) : nI o + x = nI (o + x.toNatClampNeg) := by
  have h1 := (tk_rng_nat h).1
  rw [← nI_add, ← h1]

theorem izX4_setSensor_4 : ∀ w ∈ wsX40, w ∈ wsX4_setSensor := fun _ h => List.mem_cons_of_mem _ (List.mem_append_right _ h)
set_option maxHeartbeats 4000000 in
set_option maxRecDepth 100000 in
/-- setSensor -/
theorem k_X4_setSensor (l : Launch) (D : va_G) (cI cM cJ : ClassId) (sz : Nat) (h sa pa er na : Nat) (p : Nat) (s past err : Nat → Int32) (e : Nat → Int64) (hs : Int64) (x y z : Int32) (hp : p ≤ 4) : Met l yX4_setSensor wsX4_setSensor ({ frames := 2, cells := 0, slots := 0, locals := 42 }) (va_Pc [.ref h, .int x, .int y, .int z] (KP D (tk_T cI cM cJ) ([(h, .inr (4, [.ref sa, .ref pa, .int (nI p), .ref er, .ref na, .long (e 5), .long (e 6), .long (e 7), .long hs])), (sa, .inl (cI, 71, .inl s)), (pa, .inl (cI, 284, .inl past)), (er, .inl (cI, 3, .inl err)), (na, .inl (cJ, 5, .inr (.inl e)))]) sz)) (va_Qi (fun (r : Int32) (u : tk_Y × (Nat → Int64) × Int64) => r = (yf_setSensor (p, s, past, err) x y z).1 ∧ u.1 = (yf_setSensor (p, s, past, err) x y z).2) (fun u zt => KB D ([(h, .inr (4, [.ref sa, .ref pa, .int (nI p), .ref er, .ref na, .long (e 5), .long (e 6), .long (e 7), .long hs])), (sa, .inl (cI, 71, .inl s)), (pa, .inl (cI, 284, .inl past)), (er, .inl (cI, 3, .inl err)), (na, .inl (cJ, 5, .inr (.inl e)))]) ([(h, .inr (4, [.ref sa, .ref pa, .int (nI u.1.1), .ref er, .ref na, .long (u.2.1 5), .long (u.2.1 6), .long (u.2.1 7), .long u.2.2])), (sa, .inl (cI, 71, .inl u.1.2.1)), (pa, .inl (cI, 284, .inl u.1.2.2.1)), (er, .inl (cI, 3, .inl u.1.2.2.2)), (na, .inl (cJ, 5, .inr (.inl u.2.1)))]) sz zt) (va_A ([(h, .inr (4, [.ref sa, .ref pa, .int (nI p), .ref er, .ref na, .long (e 5), .long (e 6), .long (e 7), .long hs])), (sa, .inl (cI, 71, .inl s)), (pa, .inl (cI, 284, .inl past)), (er, .inl (cI, 3, .inl err)), (na, .inl (cJ, 5, .inr (.inl e)))]) sz)) 0 0 (va_A ([(h, .inr (4, [.ref sa, .ref pa, .int (nI p), .ref er, .ref na, .long (e 5), .long (e 6), .long (e 7), .long hs])), (sa, .inl (cI, 71, .inl s)), (pa, .inl (cI, 284, .inl past)), (er, .inl (cI, 3, .inl err)), (na, .inl (cJ, 5, .inr (.inl e)))]) sz) := by
  refine Met.ofW (cc := cX4_setSensor) (maxL := 5) (ret := (some .int)) (by decide) rfl ?_
  intro zp ze zs zm zargs zbelow zmeth zc zs1 B hml hv
  obtain ⟨rfl, hsz, hP, hK, hD0, hN⟩ := hv
  have hx := B.exec
  have hb := B.bytes
  have hr := B.returns
  have hts := atoms_spec (ws := wsX4_setSensor) B.pre
  have hm : ∀ (i : Nat) (w : Cond), wsX4_setSensor[i]? = some w → w.before _ zs = true := fun i w h => hts w (List.mem_of_getElem? h)
  have hown : zs.vm.findClass RX4 = some zm.cls := findClass_of_methodNamed B.named
  have hlocks := B.notSynchronized
  subst hsz
  have hD := hD0.self (sz := zs.heap.size)
  generalize hAe : va_A ([(h, .inr (4, [.ref sa, .ref pa, .int (nI p), .ref er, .ref na, .long (e 5), .long (e 6), .long (e 7), .long hs])), (sa, .inl (cI, 71, .inl s)), (pa, .inl (cI, 284, .inl past)), (er, .inl (cI, 3, .inl err)), (na, .inl (cJ, 5, .inr (.inl e)))]) zs.heap.size = A at hD ⊢
  have hA : ∀ q : Nat, zs.heap.size ≤ q → A q := fun q h => by rw [← hAe]; exact Or.inr h
  have hS : va_S A zs.heap zs.heap [] := va_S.rf
  have hP : va_P D vwCl ([(h, .inr (4, [.ref sa, .ref pa, .int (nI p), .ref er, .ref na, .long (e 5), .long (e 6), .long (e 7), .long hs])), (sa, .inl (cI, 71, .inl s)), (pa, .inl (cI, 284, .inl past)), (er, .inl (cI, 3, .inl err)), (na, .inl (cJ, 5, .inr (.inl e)))]) zs.heap := hP
  have hl := lv_entry ([.ref h, .int x, .int y, .int z]) (n := 5) (Nat.le_of_ble_eq_true rfl)
  rw [lg_entry_eq]
  generalize (lg_sl ([.ref h, .int x, .int y, .int z]) ++ List.replicate (5 - (lg_sl ([.ref h, .int x, .int y, .int z])).length) Slot.unset).toArray = ls at hl ⊢
  have hl : lv_has ls 5 [(0, .ref h), (1, .int x), (2, .int y), (3, .int z)] := hl
  refine lv_iload_n hx hb dX4_setSensor_0 rfl (lv_at hl 1 rfl) ?_
  refine kc_i (wc := []) (wr := [(h, .inr (4, [.ref sa, .ref pa, .int (nI p), .ref er, .ref na, .long (e 5), .long (e 6), .long (e 7), .long hs])), (sa, .inl (cI, 71, .inl s)), (pa, .inl (cI, 284, .inl past)), (er, .inl (cI, 3, .inl err)), (na, .inl (cJ, 5, .inr (.inl e)))]) (va_runS (As := [.int x]) (rest := []) ⟨hx, hb, hml, hown, hts⟩ (k_X4_isSensor l D cI cM cJ _ x) (va_cwS 1 hts gX4_setSensor_X4_isSensor rfl rfl rfl (by decide +kernel) ⟨Nat.le_of_ble_eq_true rfl, Nat.le_of_ble_eq_true rfl⟩) (kp_preS (wc := []) (wr := [(h, .inr (4, [.ref sa, .ref pa, .int (nI p), .ref er, .ref na, .long (e 5), .long (e 6), .long (e 7), .long hs])), (sa, .inl (cI, 71, .inl s)), (pa, .inl (cI, 284, .inl past)), (er, .inl (cI, 3, .inl err)), (na, .inl (cJ, 5, .inr (.inl e)))]) hN hK hP hD) rfl rfl hl.1 rfl (lv_room (Nat.le_of_ble_eq_true rfl)) dX4_setSensor_1 ⟨Nat.le_of_ble_eq_true rfl, Nat.le_of_ble_eq_true rfl⟩) hP hD hS hA (fun r_1 u_1 H locs p_1 hP hD hS => ?_)
  rcases p_1 with ⟨p_1, rfl⟩ | ⟨p_1, rfl⟩
  · have hP : va_P D vwCl ([(h, .inr (4, [.ref sa, .ref pa, .int (nI p), .ref er, .ref na, .long (e 5), .long (e 6), .long (e 7), .long hs])), (sa, .inl (cI, 71, .inl s)), (pa, .inl (cI, 284, .inl past)), (er, .inl (cI, 3, .inl err)), (na, .inl (cJ, 5, .inr (.inl e)))]) H := hP
    have hD : va_D A ([(h, .inr (4, [.ref sa, .ref pa, .int (nI p), .ref er, .ref na, .long (e 5), .long (e 6), .long (e 7), .long hs])), (sa, .inl (cI, 71, .inl s)), (pa, .inl (cI, 284, .inl past)), (er, .inl (cI, 3, .inl err)), (na, .inl (cJ, 5, .inr (.inl e)))]) := hD
    refine lv_if_eq (tgt := 26) hx hb dX4_setSensor_4 (by decide) (fun c_2 => ?_) (fun c_2 => ?_)
    · exact absurd c_2 (by decide)
    · skip
      refine lv_iload_n hx hb dX4_setSensor_7 rfl (lv_at hl 2 rfl) ?_
      refine lv_iconst (v := 0) hx hb dX4_setSensor_8 (by decide) ?_
      refine lv_iconst (v := 1) hx hb dX4_setSensor_9 (by decide) ?_
      refine kc_i (wc := []) (wr := [(h, .inr (4, [.ref sa, .ref pa, .int (nI p), .ref er, .ref na, .long (e 5), .long (e 6), .long (e 7), .long hs])), (sa, .inl (cI, 71, .inl s)), (pa, .inl (cI, 284, .inl past)), (er, .inl (cI, 3, .inl err)), (na, .inl (cJ, 5, .inr (.inl e)))]) (va_runS (As := [.int y, .int 0, .int 1]) (rest := []) ⟨hx, hb, hml, hown, hts⟩ (k_X4_in l D cI cM cJ _ y 0 1) (va_cwS 3 hts gX4_setSensor_X4_in rfl rfl rfl (by decide +kernel) ⟨Nat.le_of_ble_eq_true rfl, Nat.le_of_ble_eq_true rfl⟩) (kp_preS (wc := []) (wr := [(h, .inr (4, [.ref sa, .ref pa, .int (nI p), .ref er, .ref na, .long (e 5), .long (e 6), .long (e 7), .long hs])), (sa, .inl (cI, 71, .inl s)), (pa, .inl (cI, 284, .inl past)), (er, .inl (cI, 3, .inl err)), (na, .inl (cJ, 5, .inr (.inl e)))]) hN hK hP hD) rfl rfl hl.1 rfl (lv_room (Nat.le_of_ble_eq_true rfl)) dX4_setSensor_10 ⟨Nat.le_of_ble_eq_true rfl, Nat.le_of_ble_eq_true rfl⟩) hP hD hS hA (fun r_3 u_3 H locs p_3 hP hD hS => ?_)
      rcases p_3 with ⟨p_3, rfl⟩ | ⟨p_3, rfl⟩
      · have hP : va_P D vwCl ([(h, .inr (4, [.ref sa, .ref pa, .int (nI p), .ref er, .ref na, .long (e 5), .long (e 6), .long (e 7), .long hs])), (sa, .inl (cI, 71, .inl s)), (pa, .inl (cI, 284, .inl past)), (er, .inl (cI, 3, .inl err)), (na, .inl (cJ, 5, .inr (.inl e)))]) H := hP
        have hD : va_D A ([(h, .inr (4, [.ref sa, .ref pa, .int (nI p), .ref er, .ref na, .long (e 5), .long (e 6), .long (e 7), .long hs])), (sa, .inl (cI, 71, .inl s)), (pa, .inl (cI, 284, .inl past)), (er, .inl (cI, 3, .inl err)), (na, .inl (cJ, 5, .inr (.inl e)))]) := hD
        refine lv_if_eq (tgt := 26) hx hb dX4_setSensor_13 (by decide) (fun c_4 => ?_) (fun c_4 => ?_)
        · exact absurd c_4 (by decide)
        · skip
          refine lv_iload_n hx hb dX4_setSensor_16 rfl (lv_at hl 3 rfl) ?_
          refine lv_iconst (v := 1) hx hb dX4_setSensor_17 (by decide) ?_
          refine lv_ldc (v := 40960000) hx hb hown (hm 1 (.constant RX4 67 (40960000)) rfl) dX4_setSensor_18 ?_
          refine kc_i (wc := []) (wr := [(h, .inr (4, [.ref sa, .ref pa, .int (nI p), .ref er, .ref na, .long (e 5), .long (e 6), .long (e 7), .long hs])), (sa, .inl (cI, 71, .inl s)), (pa, .inl (cI, 284, .inl past)), (er, .inl (cI, 3, .inl err)), (na, .inl (cJ, 5, .inr (.inl e)))]) (va_runS (As := [.int z, .int 1, .int 40960000]) (rest := []) ⟨hx, hb, hml, hown, hts⟩ (k_X4_in l D cI cM cJ _ z 1 40960000) (va_cwS 3 hts gX4_setSensor_X4_in rfl rfl rfl (by decide +kernel) ⟨Nat.le_of_ble_eq_true rfl, Nat.le_of_ble_eq_true rfl⟩) (kp_preS (wc := []) (wr := [(h, .inr (4, [.ref sa, .ref pa, .int (nI p), .ref er, .ref na, .long (e 5), .long (e 6), .long (e 7), .long hs])), (sa, .inl (cI, 71, .inl s)), (pa, .inl (cI, 284, .inl past)), (er, .inl (cI, 3, .inl err)), (na, .inl (cJ, 5, .inr (.inl e)))]) hN hK hP hD) rfl rfl hl.1 rfl (lv_room (Nat.le_of_ble_eq_true rfl)) dX4_setSensor_20 ⟨Nat.le_of_ble_eq_true rfl, Nat.le_of_ble_eq_true rfl⟩) hP hD hS hA (fun r_5 u_5 H locs p_5 hP hD hS => ?_)
          rcases p_5 with ⟨p_5, rfl⟩ | ⟨p_5, rfl⟩
          · have hP : va_P D vwCl ([(h, .inr (4, [.ref sa, .ref pa, .int (nI p), .ref er, .ref na, .long (e 5), .long (e 6), .long (e 7), .long hs])), (sa, .inl (cI, 71, .inl s)), (pa, .inl (cI, 284, .inl past)), (er, .inl (cI, 3, .inl err)), (na, .inl (cJ, 5, .inr (.inl e)))]) H := hP
            have hD : va_D A ([(h, .inr (4, [.ref sa, .ref pa, .int (nI p), .ref er, .ref na, .long (e 5), .long (e 6), .long (e 7), .long hs])), (sa, .inl (cI, 71, .inl s)), (pa, .inl (cI, 284, .inl past)), (er, .inl (cI, 3, .inl err)), (na, .inl (cJ, 5, .inr (.inl e)))]) := hD
            refine lv_if_ne (tgt := 33) hx hb dX4_setSensor_23 (by decide) (fun c_6 => ?_) (fun c_6 => ?_)
            · skip
              refine lv_aload_n hx hb dX4_setSensor_33 rfl (lv_at hl 0 rfl) ?_
              refine kc_v (wc := [(h, .inr (4, [.ref sa, .ref pa, .int (nI p), .ref er, .ref na, .long (e 5), .long (e 6), .long (e 7), .long hs])), (sa, .inl (cI, 71, .inl s)), (pa, .inl (cI, 284, .inl past))]) (wr := [(er, .inl (cI, 3, .inl err)), (na, .inl (cJ, 5, .inr (.inl e)))]) (va_runV (As := []) (rest := []) ⟨hx, hb, hml, hown, hts⟩ (k_X4_note l D cI cM cJ _ h sa pa er na p (e 5) (e 6) (e 7) hs s past hp) (cwV 0 hts gX4_setSensor_X4_note rfl rfl rfl (by decide +kernel) ⟨Nat.le_of_ble_eq_true rfl, Nat.le_of_ble_eq_true rfl⟩) (kp_preV (q := (RX4, TX4, 9)) (wc := [(h, .inr (4, [.ref sa, .ref pa, .int (nI p), .ref er, .ref na, .long (e 5), .long (e 6), .long (e 7), .long hs])), (sa, .inl (cI, 71, .inl s)), (pa, .inl (cI, 284, .inl past))]) (wr := [(er, .inl (cI, 3, .inl err)), (na, .inl (cJ, 5, .inr (.inl e)))]) hN hK hP hD 0 rfl rfl) rfl rfl hl.1 rfl (lv_room (Nat.le_of_ble_eq_true rfl)) dX4_setSensor_34 ⟨Nat.le_of_ble_eq_true rfl, Nat.le_of_ble_eq_true rfl⟩) hP hD hS hA (fun u_7 H locs p_7 hP hD hS => ?_)
              have hP : va_P D vwCl ([(h, .inr (4, [.ref sa, .ref pa, .int (nI (tk_np p)), .ref er, .ref na, .long (e 5), .long (e 6), .long (e 7), .long hs])), (sa, .inl (cI, 71, .inl s)), (pa, .inl (cI, 284, .inl (tk_nP past p s))), (er, .inl (cI, 3, .inl err)), (na, .inl (cJ, 5, .inr (.inl e)))]) H := hP
              have hD : va_D A ([(h, .inr (4, [.ref sa, .ref pa, .int (nI (tk_np p)), .ref er, .ref na, .long (e 5), .long (e 6), .long (e 7), .long hs])), (sa, .inl (cI, 71, .inl s)), (pa, .inl (cI, 284, .inl (tk_nP past p s))), (er, .inl (cI, 3, .inl err)), (na, .inl (cJ, 5, .inr (.inl e)))]) := hD
              refine lv_aload_n hx hb dX4_setSensor_37 rfl (lv_at hl 0 rfl) ?_
              refine va_get (D := D) (ci := 4) (v := .ref sa) (C := RX4) (T := TX4) (N := 9) hx hb hts izX4_setSensor_4 hown hK hP 0 rfl rfl 0 (by decide) (hm 3 (.fieldLink RX4 7 "TankFilterModel" "s" "[I") rfl) (fun _ h9 => h9) rfl dX4_setSensor_38 ?_
              refine lv_bipush (v := 12) hx hb dX4_setSensor_41 (by decide) ?_
              refine lv_iload_n hx hb dX4_setSensor_43 rfl (lv_at hl 1 rfl) ?_
              refine lv_iadd hx hb dX4_setSensor_44 ?_
              refine ka_ild (D := D) (j := (12 + x.toNatClampNeg)) (n := 71) (f := s) hx hb hK hP 1 0 rfl rfl (tk_ix 12 p_1) (by have := (tk_rng_nat p_1).2; omega) (by decide) dX4_setSensor_45 ?_
              refine lv_istore (lv' := [(4, .int (s (12 + x.toNatClampNeg))), (0, .ref h), (1, .int x), (2, .int y), (3, .int z)]) hx hb dX4_setSensor_46 hl (by decide) rfl (fun ls hl => ?_)
              refine lv_aload_n hx hb dX4_setSensor_48 rfl (lv_at hl 1 rfl) ?_
              refine va_get (D := D) (ci := 4) (v := .ref sa) (C := RX4) (T := TX4) (N := 9) hx hb hts izX4_setSensor_4 hown hK hP 0 rfl rfl 0 (by decide) (hm 3 (.fieldLink RX4 7 "TankFilterModel" "s" "[I") rfl) (fun _ h9 => h9) rfl dX4_setSensor_49 ?_
              refine lv_bipush (v := 8) hx hb dX4_setSensor_52 (by decide) ?_
              refine lv_iload_n hx hb dX4_setSensor_54 rfl (lv_at hl 2 rfl) ?_
              refine lv_iadd hx hb dX4_setSensor_55 ?_
              refine lv_iload_n hx hb dX4_setSensor_56 rfl (lv_at hl 3 rfl) ?_
              refine ka_ist (D := D) (j := (8 + x.toNatClampNeg)) (n := 71) (f := s) hx hb hK hP hD hS 1 0 rfl rfl (tk_ix 8 p_1) (by have := (tk_rng_nat p_1).2; omega) (by decide) dX4_setSensor_57 (fun H locs hP hD hS => ?_)
              have hP : va_P D vwCl ([(h, .inr (4, [.ref sa, .ref pa, .int (nI (tk_np p)), .ref er, .ref na, .long (e 5), .long (e 6), .long (e 7), .long hs])), (sa, .inl (cI, 71, .inl (upd s (8 + x.toNatClampNeg) y))), (pa, .inl (cI, 284, .inl (tk_nP past p s))), (er, .inl (cI, 3, .inl err)), (na, .inl (cJ, 5, .inr (.inl e)))]) H := hP
              have hD : va_D A ([(h, .inr (4, [.ref sa, .ref pa, .int (nI (tk_np p)), .ref er, .ref na, .long (e 5), .long (e 6), .long (e 7), .long hs])), (sa, .inl (cI, 71, .inl (upd s (8 + x.toNatClampNeg) y))), (pa, .inl (cI, 284, .inl (tk_nP past p s))), (er, .inl (cI, 3, .inl err)), (na, .inl (cJ, 5, .inr (.inl e)))]) := hD
              refine lv_aload_n hx hb dX4_setSensor_58 rfl (lv_at hl 1 rfl) ?_
              refine va_get (D := D) (ci := 4) (v := .ref sa) (C := RX4) (T := TX4) (N := 9) hx hb hts izX4_setSensor_4 hown hK hP 0 rfl rfl 0 (by decide) (hm 3 (.fieldLink RX4 7 "TankFilterModel" "s" "[I") rfl) (fun _ h9 => h9) rfl dX4_setSensor_59 ?_
              refine lv_bipush (v := 12) hx hb dX4_setSensor_62 (by decide) ?_
              refine lv_iload_n hx hb dX4_setSensor_64 rfl (lv_at hl 2 rfl) ?_
              refine lv_iadd hx hb dX4_setSensor_65 ?_
              refine lv_iload_n hx hb dX4_setSensor_66 rfl (lv_at hl 4 rfl) ?_
              refine ka_ist (D := D) (j := (12 + x.toNatClampNeg)) (n := 71) (f := upd s (8 + x.toNatClampNeg) y) hx hb hK hP hD hS 1 0 rfl rfl (tk_ix 12 p_1) (by have := (tk_rng_nat p_1).2; omega) (by decide) dX4_setSensor_67 (fun H locs hP hD hS => ?_)
              have hP : va_P D vwCl ([(h, .inr (4, [.ref sa, .ref pa, .int (nI (tk_np p)), .ref er, .ref na, .long (e 5), .long (e 6), .long (e 7), .long hs])), (sa, .inl (cI, 71, .inl (upd (upd s (8 + x.toNatClampNeg) y) (12 + x.toNatClampNeg) z))), (pa, .inl (cI, 284, .inl (tk_nP past p s))), (er, .inl (cI, 3, .inl err)), (na, .inl (cJ, 5, .inr (.inl e)))]) H := hP
              have hD : va_D A ([(h, .inr (4, [.ref sa, .ref pa, .int (nI (tk_np p)), .ref er, .ref na, .long (e 5), .long (e 6), .long (e 7), .long hs])), (sa, .inl (cI, 71, .inl (upd (upd s (8 + x.toNatClampNeg) y) (12 + x.toNatClampNeg) z))), (pa, .inl (cI, 284, .inl (tk_nP past p s))), (er, .inl (cI, 3, .inl err)), (na, .inl (cJ, 5, .inr (.inl e)))]) := hD
              refine lv_iload hx hb dX4_setSensor_68 (lv_at hl 0 rfl) ?_
              have hyf : yf_setSensor (p, s, past, err) x y z = (s (12 + x.toNatClampNeg), tk_nv (p, s, past, err) (upd (upd s (8 + x.toNatClampNeg) y) (12 + x.toNatClampNeg) z)) := by rw [yf_setSensor, if_pos ⟨p_1, p_3, p_5⟩]
              exact W.iret (v := s (12 + x.toNatClampNeg)) hx hb hr (fun zt ht hW => ⟨⟨s (12 + x.toNatClampNeg), (tk_nv (p, s, past, err) (upd (upd s (8 + x.toNatClampNeg) y) (12 + x.toNatClampNeg) z), e, hs), rfl, ⟨by rw [hyf], by rw [hyf]⟩, KB.of hAe (by rw [ht]; exact hP) hD⟩, hS.F ht⟩) hS.2.2 dX4_setSensor_70
            · exact absurd c_6 (by decide)
          · have hP : va_P D vwCl ([(h, .inr (4, [.ref sa, .ref pa, .int (nI p), .ref er, .ref na, .long (e 5), .long (e 6), .long (e 7), .long hs])), (sa, .inl (cI, 71, .inl s)), (pa, .inl (cI, 284, .inl past)), (er, .inl (cI, 3, .inl err)), (na, .inl (cJ, 5, .inr (.inl e)))]) H := hP
            have hD : va_D A ([(h, .inr (4, [.ref sa, .ref pa, .int (nI p), .ref er, .ref na, .long (e 5), .long (e 6), .long (e 7), .long hs])), (sa, .inl (cI, 71, .inl s)), (pa, .inl (cI, 284, .inl past)), (er, .inl (cI, 3, .inl err)), (na, .inl (cJ, 5, .inr (.inl e)))]) := hD
            refine lv_if_ne (tgt := 33) hx hb dX4_setSensor_23 (by decide) (fun c_8 => ?_) (fun c_8 => ?_)
            · exact absurd c_8 (by decide)
            · skip
              refine lv_aload_n hx hb dX4_setSensor_26 rfl (lv_at hl 0 rfl) ?_
              refine lv_ldc (v := -2000000002) hx hb hown (hm 2 (.constant RX4 26 (-2000000002)) rfl) dX4_setSensor_27 ?_
              obtain ⟨hP, hD⟩ := kp_sub (ws' := [(h, .inr (4, [.ref sa, .ref pa, .int (nI p), .ref er, .ref na, .long (e 5), .long (e 6), .long (e 7), .long hs])), (er, .inl (cI, 3, .inl err)), (sa, .inl (cI, 71, .inl s)), (pa, .inl (cI, 284, .inl past)), (na, .inl (cJ, 5, .inr (.inl e)))]) hP hD [0, 3, 1, 2, 4] (by decide) rfl
              refine kc_i (wc := [(h, .inr (4, [.ref sa, .ref pa, .int (nI p), .ref er, .ref na, .long (e 5), .long (e 6), .long (e 7), .long hs])), (er, .inl (cI, 3, .inl err))]) (wr := [(sa, .inl (cI, 71, .inl s)), (pa, .inl (cI, 284, .inl past)), (na, .inl (cJ, 5, .inr (.inl e)))]) (va_runV (As := [.int (-2000000002)]) (rest := []) ⟨hx, hb, hml, hown, hts⟩ (k_X4_fail l D cI cM cJ _ h sa pa er na (nI p) (e 5) (e 6) (e 7) hs err (-2000000002) 0 (by decide) (by decide)) (cwV 1 hts gX4_setSensor_X4_fail rfl rfl rfl (by decide +kernel) ⟨Nat.le_of_ble_eq_true rfl, Nat.le_of_ble_eq_true rfl⟩) (kp_preV (q := (RX4, TX4, 9)) (wc := [(h, .inr (4, [.ref sa, .ref pa, .int (nI p), .ref er, .ref na, .long (e 5), .long (e 6), .long (e 7), .long hs])), (er, .inl (cI, 3, .inl err))]) (wr := [(sa, .inl (cI, 71, .inl s)), (pa, .inl (cI, 284, .inl past)), (na, .inl (cJ, 5, .inr (.inl e)))]) hN hK hP hD 0 rfl rfl) rfl rfl hl.1 rfl (lv_room (Nat.le_of_ble_eq_true rfl)) dX4_setSensor_29 ⟨Nat.le_of_ble_eq_true rfl, Nat.le_of_ble_eq_true rfl⟩) hP hD hS hA (fun r_9 u_9 H locs p_9 hP hD hS => ?_)
              obtain rfl : r_9 = (-2000000002) := p_9
              obtain ⟨hP, hD⟩ := kp_sub (ws' := [(h, .inr (4, [.ref sa, .ref pa, .int (nI p), .ref er, .ref na, .long (e 5), .long (e 6), .long (e 7), .long hs])), (sa, .inl (cI, 71, .inl s)), (pa, .inl (cI, 284, .inl past)), (er, .inl (cI, 3, .inl (upd err 0 (err 0 + 1)))), (na, .inl (cJ, 5, .inr (.inl e)))]) (ws := [(h, .inr (4, [.ref sa, .ref pa, .int (nI p), .ref er, .ref na, .long (e 5), .long (e 6), .long (e 7), .long hs])), (er, .inl (cI, 3, .inl (upd err 0 (err 0 + 1)))), (sa, .inl (cI, 71, .inl s)), (pa, .inl (cI, 284, .inl past)), (na, .inl (cJ, 5, .inr (.inl e)))]) hP hD [0, 2, 3, 1, 4] (by decide) rfl
              have hP : va_P D vwCl ([(h, .inr (4, [.ref sa, .ref pa, .int (nI p), .ref er, .ref na, .long (e 5), .long (e 6), .long (e 7), .long hs])), (sa, .inl (cI, 71, .inl s)), (pa, .inl (cI, 284, .inl past)), (er, .inl (cI, 3, .inl (upd err 0 (err 0 + 1)))), (na, .inl (cJ, 5, .inr (.inl e)))]) H := hP
              have hD : va_D A ([(h, .inr (4, [.ref sa, .ref pa, .int (nI p), .ref er, .ref na, .long (e 5), .long (e 6), .long (e 7), .long hs])), (sa, .inl (cI, 71, .inl s)), (pa, .inl (cI, 284, .inl past)), (er, .inl (cI, 3, .inl (upd err 0 (err 0 + 1)))), (na, .inl (cJ, 5, .inr (.inl e)))]) := hD
              have hyf : yf_setSensor (p, s, past, err) x y z = ((-2000000002), tk_yl (p, s, past, err) 0) := by rw [yf_setSensor, if_neg (fun z => p_5 z.2.2)]
              exact W.iret (v := (-2000000002)) hx hb hr (fun zt ht hW => ⟨⟨(-2000000002), (tk_yl (p, s, past, err) 0, e, hs), rfl, ⟨by rw [hyf], by rw [hyf]⟩, KB.of hAe (by rw [ht]; exact hP) hD⟩, hS.F ht⟩) hS.2.2 dX4_setSensor_32
      · have hP : va_P D vwCl ([(h, .inr (4, [.ref sa, .ref pa, .int (nI p), .ref er, .ref na, .long (e 5), .long (e 6), .long (e 7), .long hs])), (sa, .inl (cI, 71, .inl s)), (pa, .inl (cI, 284, .inl past)), (er, .inl (cI, 3, .inl err)), (na, .inl (cJ, 5, .inr (.inl e)))]) H := hP
        have hD : va_D A ([(h, .inr (4, [.ref sa, .ref pa, .int (nI p), .ref er, .ref na, .long (e 5), .long (e 6), .long (e 7), .long hs])), (sa, .inl (cI, 71, .inl s)), (pa, .inl (cI, 284, .inl past)), (er, .inl (cI, 3, .inl err)), (na, .inl (cJ, 5, .inr (.inl e)))]) := hD
        refine lv_if_eq (tgt := 26) hx hb dX4_setSensor_13 (by decide) (fun c_10 => ?_) (fun c_10 => ?_)
        · skip
          refine lv_aload_n hx hb dX4_setSensor_26 rfl (lv_at hl 0 rfl) ?_
          refine lv_ldc (v := -2000000002) hx hb hown (hm 2 (.constant RX4 26 (-2000000002)) rfl) dX4_setSensor_27 ?_
          obtain ⟨hP, hD⟩ := kp_sub (ws' := [(h, .inr (4, [.ref sa, .ref pa, .int (nI p), .ref er, .ref na, .long (e 5), .long (e 6), .long (e 7), .long hs])), (er, .inl (cI, 3, .inl err)), (sa, .inl (cI, 71, .inl s)), (pa, .inl (cI, 284, .inl past)), (na, .inl (cJ, 5, .inr (.inl e)))]) hP hD [0, 3, 1, 2, 4] (by decide) rfl
          refine kc_i (wc := [(h, .inr (4, [.ref sa, .ref pa, .int (nI p), .ref er, .ref na, .long (e 5), .long (e 6), .long (e 7), .long hs])), (er, .inl (cI, 3, .inl err))]) (wr := [(sa, .inl (cI, 71, .inl s)), (pa, .inl (cI, 284, .inl past)), (na, .inl (cJ, 5, .inr (.inl e)))]) (va_runV (As := [.int (-2000000002)]) (rest := []) ⟨hx, hb, hml, hown, hts⟩ (k_X4_fail l D cI cM cJ _ h sa pa er na (nI p) (e 5) (e 6) (e 7) hs err (-2000000002) 0 (by decide) (by decide)) (cwV 1 hts gX4_setSensor_X4_fail rfl rfl rfl (by decide +kernel) ⟨Nat.le_of_ble_eq_true rfl, Nat.le_of_ble_eq_true rfl⟩) (kp_preV (q := (RX4, TX4, 9)) (wc := [(h, .inr (4, [.ref sa, .ref pa, .int (nI p), .ref er, .ref na, .long (e 5), .long (e 6), .long (e 7), .long hs])), (er, .inl (cI, 3, .inl err))]) (wr := [(sa, .inl (cI, 71, .inl s)), (pa, .inl (cI, 284, .inl past)), (na, .inl (cJ, 5, .inr (.inl e)))]) hN hK hP hD 0 rfl rfl) rfl rfl hl.1 rfl (lv_room (Nat.le_of_ble_eq_true rfl)) dX4_setSensor_29 ⟨Nat.le_of_ble_eq_true rfl, Nat.le_of_ble_eq_true rfl⟩) hP hD hS hA (fun r_11 u_11 H locs p_11 hP hD hS => ?_)
          obtain rfl : r_11 = (-2000000002) := p_11
          obtain ⟨hP, hD⟩ := kp_sub (ws' := [(h, .inr (4, [.ref sa, .ref pa, .int (nI p), .ref er, .ref na, .long (e 5), .long (e 6), .long (e 7), .long hs])), (sa, .inl (cI, 71, .inl s)), (pa, .inl (cI, 284, .inl past)), (er, .inl (cI, 3, .inl (upd err 0 (err 0 + 1)))), (na, .inl (cJ, 5, .inr (.inl e)))]) (ws := [(h, .inr (4, [.ref sa, .ref pa, .int (nI p), .ref er, .ref na, .long (e 5), .long (e 6), .long (e 7), .long hs])), (er, .inl (cI, 3, .inl (upd err 0 (err 0 + 1)))), (sa, .inl (cI, 71, .inl s)), (pa, .inl (cI, 284, .inl past)), (na, .inl (cJ, 5, .inr (.inl e)))]) hP hD [0, 2, 3, 1, 4] (by decide) rfl
          have hP : va_P D vwCl ([(h, .inr (4, [.ref sa, .ref pa, .int (nI p), .ref er, .ref na, .long (e 5), .long (e 6), .long (e 7), .long hs])), (sa, .inl (cI, 71, .inl s)), (pa, .inl (cI, 284, .inl past)), (er, .inl (cI, 3, .inl (upd err 0 (err 0 + 1)))), (na, .inl (cJ, 5, .inr (.inl e)))]) H := hP
          have hD : va_D A ([(h, .inr (4, [.ref sa, .ref pa, .int (nI p), .ref er, .ref na, .long (e 5), .long (e 6), .long (e 7), .long hs])), (sa, .inl (cI, 71, .inl s)), (pa, .inl (cI, 284, .inl past)), (er, .inl (cI, 3, .inl (upd err 0 (err 0 + 1)))), (na, .inl (cJ, 5, .inr (.inl e)))]) := hD
          have hyf : yf_setSensor (p, s, past, err) x y z = ((-2000000002), tk_yl (p, s, past, err) 0) := by rw [yf_setSensor, if_neg (fun z => p_3 z.2.1)]
          exact W.iret (v := (-2000000002)) hx hb hr (fun zt ht hW => ⟨⟨(-2000000002), (tk_yl (p, s, past, err) 0, e, hs), rfl, ⟨by rw [hyf], by rw [hyf]⟩, KB.of hAe (by rw [ht]; exact hP) hD⟩, hS.F ht⟩) hS.2.2 dX4_setSensor_32
        · exact absurd c_10 (by decide)
  · have hP : va_P D vwCl ([(h, .inr (4, [.ref sa, .ref pa, .int (nI p), .ref er, .ref na, .long (e 5), .long (e 6), .long (e 7), .long hs])), (sa, .inl (cI, 71, .inl s)), (pa, .inl (cI, 284, .inl past)), (er, .inl (cI, 3, .inl err)), (na, .inl (cJ, 5, .inr (.inl e)))]) H := hP
    have hD : va_D A ([(h, .inr (4, [.ref sa, .ref pa, .int (nI p), .ref er, .ref na, .long (e 5), .long (e 6), .long (e 7), .long hs])), (sa, .inl (cI, 71, .inl s)), (pa, .inl (cI, 284, .inl past)), (er, .inl (cI, 3, .inl err)), (na, .inl (cJ, 5, .inr (.inl e)))]) := hD
    refine lv_if_eq (tgt := 26) hx hb dX4_setSensor_4 (by decide) (fun c_12 => ?_) (fun c_12 => ?_)
    · skip
      refine lv_aload_n hx hb dX4_setSensor_26 rfl (lv_at hl 0 rfl) ?_
      refine lv_ldc (v := -2000000002) hx hb hown (hm 2 (.constant RX4 26 (-2000000002)) rfl) dX4_setSensor_27 ?_
      obtain ⟨hP, hD⟩ := kp_sub (ws' := [(h, .inr (4, [.ref sa, .ref pa, .int (nI p), .ref er, .ref na, .long (e 5), .long (e 6), .long (e 7), .long hs])), (er, .inl (cI, 3, .inl err)), (sa, .inl (cI, 71, .inl s)), (pa, .inl (cI, 284, .inl past)), (na, .inl (cJ, 5, .inr (.inl e)))]) hP hD [0, 3, 1, 2, 4] (by decide) rfl
      refine kc_i (wc := [(h, .inr (4, [.ref sa, .ref pa, .int (nI p), .ref er, .ref na, .long (e 5), .long (e 6), .long (e 7), .long hs])), (er, .inl (cI, 3, .inl err))]) (wr := [(sa, .inl (cI, 71, .inl s)), (pa, .inl (cI, 284, .inl past)), (na, .inl (cJ, 5, .inr (.inl e)))]) (va_runV (As := [.int (-2000000002)]) (rest := []) ⟨hx, hb, hml, hown, hts⟩ (k_X4_fail l D cI cM cJ _ h sa pa er na (nI p) (e 5) (e 6) (e 7) hs err (-2000000002) 0 (by decide) (by decide)) (cwV 1 hts gX4_setSensor_X4_fail rfl rfl rfl (by decide +kernel) ⟨Nat.le_of_ble_eq_true rfl, Nat.le_of_ble_eq_true rfl⟩) (kp_preV (q := (RX4, TX4, 9)) (wc := [(h, .inr (4, [.ref sa, .ref pa, .int (nI p), .ref er, .ref na, .long (e 5), .long (e 6), .long (e 7), .long hs])), (er, .inl (cI, 3, .inl err))]) (wr := [(sa, .inl (cI, 71, .inl s)), (pa, .inl (cI, 284, .inl past)), (na, .inl (cJ, 5, .inr (.inl e)))]) hN hK hP hD 0 rfl rfl) rfl rfl hl.1 rfl (lv_room (Nat.le_of_ble_eq_true rfl)) dX4_setSensor_29 ⟨Nat.le_of_ble_eq_true rfl, Nat.le_of_ble_eq_true rfl⟩) hP hD hS hA (fun r_13 u_13 H locs p_13 hP hD hS => ?_)
      obtain rfl : r_13 = (-2000000002) := p_13
      obtain ⟨hP, hD⟩ := kp_sub (ws' := [(h, .inr (4, [.ref sa, .ref pa, .int (nI p), .ref er, .ref na, .long (e 5), .long (e 6), .long (e 7), .long hs])), (sa, .inl (cI, 71, .inl s)), (pa, .inl (cI, 284, .inl past)), (er, .inl (cI, 3, .inl (upd err 0 (err 0 + 1)))), (na, .inl (cJ, 5, .inr (.inl e)))]) (ws := [(h, .inr (4, [.ref sa, .ref pa, .int (nI p), .ref er, .ref na, .long (e 5), .long (e 6), .long (e 7), .long hs])), (er, .inl (cI, 3, .inl (upd err 0 (err 0 + 1)))), (sa, .inl (cI, 71, .inl s)), (pa, .inl (cI, 284, .inl past)), (na, .inl (cJ, 5, .inr (.inl e)))]) hP hD [0, 2, 3, 1, 4] (by decide) rfl
      have hP : va_P D vwCl ([(h, .inr (4, [.ref sa, .ref pa, .int (nI p), .ref er, .ref na, .long (e 5), .long (e 6), .long (e 7), .long hs])), (sa, .inl (cI, 71, .inl s)), (pa, .inl (cI, 284, .inl past)), (er, .inl (cI, 3, .inl (upd err 0 (err 0 + 1)))), (na, .inl (cJ, 5, .inr (.inl e)))]) H := hP
      have hD : va_D A ([(h, .inr (4, [.ref sa, .ref pa, .int (nI p), .ref er, .ref na, .long (e 5), .long (e 6), .long (e 7), .long hs])), (sa, .inl (cI, 71, .inl s)), (pa, .inl (cI, 284, .inl past)), (er, .inl (cI, 3, .inl (upd err 0 (err 0 + 1)))), (na, .inl (cJ, 5, .inr (.inl e)))]) := hD
      have hyf : yf_setSensor (p, s, past, err) x y z = ((-2000000002), tk_yl (p, s, past, err) 0) := by rw [yf_setSensor, if_neg (fun z => p_1 z.1)]
      exact W.iret (v := (-2000000002)) hx hb hr (fun zt ht hW => ⟨⟨(-2000000002), (tk_yl (p, s, past, err) 0, e, hs), rfl, ⟨by rw [hyf], by rw [hyf]⟩, KB.of hAe (by rw [ht]; exact hP) hD⟩, hS.F ht⟩) hS.2.2 dX4_setSensor_32
    · exact absurd c_12 (by decide)

def yf_miss (Y : tk_Y) (y : Int32) : Int32 × tk_Y := if tk_rng 0 3 y then (Y.2.1 21 + 1, tk_nv Y (upd Y.2.1 21 (Y.2.1 21 + 1))) else (-2000000002, tk_yl Y 0)

theorem izX4_miss_4 : ∀ w ∈ wsX40, w ∈ wsX4_miss := fun _ h => List.mem_cons_of_mem _ (List.mem_append_right _ h)
set_option maxHeartbeats 4000000 in
set_option maxRecDepth 100000 in
/-- miss -/
theorem k_X4_miss (l : Launch) (D : va_G) (cI cM cJ : ClassId) (sz : Nat) (h sa pa er na : Nat) (p : Nat) (s past err : Nat → Int32) (e : Nat → Int64) (hs : Int64) (y : Int32) (hp : p ≤ 4) : Met l yX4_miss wsX4_miss ({ frames := 2, cells := 0, slots := 0, locals := 42 }) (va_Pc [.ref h, .int y] (KP D (tk_T cI cM cJ) ([(h, .inr (4, [.ref sa, .ref pa, .int (nI p), .ref er, .ref na, .long (e 5), .long (e 6), .long (e 7), .long hs])), (sa, .inl (cI, 71, .inl s)), (pa, .inl (cI, 284, .inl past)), (er, .inl (cI, 3, .inl err)), (na, .inl (cJ, 5, .inr (.inl e)))]) sz)) (va_Qi (fun (r : Int32) (u : tk_Y × (Nat → Int64) × Int64) => r = (yf_miss (p, s, past, err) y).1 ∧ u.1 = (yf_miss (p, s, past, err) y).2) (fun u zt => KB D ([(h, .inr (4, [.ref sa, .ref pa, .int (nI p), .ref er, .ref na, .long (e 5), .long (e 6), .long (e 7), .long hs])), (sa, .inl (cI, 71, .inl s)), (pa, .inl (cI, 284, .inl past)), (er, .inl (cI, 3, .inl err)), (na, .inl (cJ, 5, .inr (.inl e)))]) ([(h, .inr (4, [.ref sa, .ref pa, .int (nI u.1.1), .ref er, .ref na, .long (u.2.1 5), .long (u.2.1 6), .long (u.2.1 7), .long u.2.2])), (sa, .inl (cI, 71, .inl u.1.2.1)), (pa, .inl (cI, 284, .inl u.1.2.2.1)), (er, .inl (cI, 3, .inl u.1.2.2.2)), (na, .inl (cJ, 5, .inr (.inl u.2.1)))]) sz zt) (va_A ([(h, .inr (4, [.ref sa, .ref pa, .int (nI p), .ref er, .ref na, .long (e 5), .long (e 6), .long (e 7), .long hs])), (sa, .inl (cI, 71, .inl s)), (pa, .inl (cI, 284, .inl past)), (er, .inl (cI, 3, .inl err)), (na, .inl (cJ, 5, .inr (.inl e)))]) sz)) 0 0 (va_A ([(h, .inr (4, [.ref sa, .ref pa, .int (nI p), .ref er, .ref na, .long (e 5), .long (e 6), .long (e 7), .long hs])), (sa, .inl (cI, 71, .inl s)), (pa, .inl (cI, 284, .inl past)), (er, .inl (cI, 3, .inl err)), (na, .inl (cJ, 5, .inr (.inl e)))]) sz) := by
  refine Met.ofW (cc := cX4_miss) (maxL := 2) (ret := (some .int)) (by decide) rfl ?_
  intro zp ze zs zm zargs zbelow zmeth zc zs1 B hml hv
  obtain ⟨rfl, hsz, hP, hK, hD0, hN⟩ := hv
  have hx := B.exec
  have hb := B.bytes
  have hr := B.returns
  have hts := atoms_spec (ws := wsX4_miss) B.pre
  have hm : ∀ (i : Nat) (w : Cond), wsX4_miss[i]? = some w → w.before _ zs = true := fun i w h => hts w (List.mem_of_getElem? h)
  have hown : zs.vm.findClass RX4 = some zm.cls := findClass_of_methodNamed B.named
  have hlocks := B.notSynchronized
  subst hsz
  have hD := hD0.self (sz := zs.heap.size)
  generalize hAe : va_A ([(h, .inr (4, [.ref sa, .ref pa, .int (nI p), .ref er, .ref na, .long (e 5), .long (e 6), .long (e 7), .long hs])), (sa, .inl (cI, 71, .inl s)), (pa, .inl (cI, 284, .inl past)), (er, .inl (cI, 3, .inl err)), (na, .inl (cJ, 5, .inr (.inl e)))]) zs.heap.size = A at hD ⊢
  have hA : ∀ q : Nat, zs.heap.size ≤ q → A q := fun q h => by rw [← hAe]; exact Or.inr h
  have hS : va_S A zs.heap zs.heap [] := va_S.rf
  have hP : va_P D vwCl ([(h, .inr (4, [.ref sa, .ref pa, .int (nI p), .ref er, .ref na, .long (e 5), .long (e 6), .long (e 7), .long hs])), (sa, .inl (cI, 71, .inl s)), (pa, .inl (cI, 284, .inl past)), (er, .inl (cI, 3, .inl err)), (na, .inl (cJ, 5, .inr (.inl e)))]) zs.heap := hP
  have hl := lv_entry ([.ref h, .int y]) (n := 2) (Nat.le_of_ble_eq_true rfl)
  rw [lg_entry_eq]
  generalize (lg_sl ([.ref h, .int y]) ++ List.replicate (2 - (lg_sl ([.ref h, .int y])).length) Slot.unset).toArray = ls at hl ⊢
  have hl : lv_has ls 2 [(0, .ref h), (1, .int y)] := hl
  refine lv_iload_n hx hb dX4_miss_0 rfl (lv_at hl 1 rfl) ?_
  refine kc_i (wc := []) (wr := [(h, .inr (4, [.ref sa, .ref pa, .int (nI p), .ref er, .ref na, .long (e 5), .long (e 6), .long (e 7), .long hs])), (sa, .inl (cI, 71, .inl s)), (pa, .inl (cI, 284, .inl past)), (er, .inl (cI, 3, .inl err)), (na, .inl (cJ, 5, .inr (.inl e)))]) (va_runS (As := [.int y]) (rest := []) ⟨hx, hb, hml, hown, hts⟩ (k_X4_isSensor l D cI cM cJ _ y) (va_cwS 1 hts gX4_miss_X4_isSensor rfl rfl rfl (by decide +kernel) ⟨Nat.le_of_ble_eq_true rfl, Nat.le_of_ble_eq_true rfl⟩) (kp_preS (wc := []) (wr := [(h, .inr (4, [.ref sa, .ref pa, .int (nI p), .ref er, .ref na, .long (e 5), .long (e 6), .long (e 7), .long hs])), (sa, .inl (cI, 71, .inl s)), (pa, .inl (cI, 284, .inl past)), (er, .inl (cI, 3, .inl err)), (na, .inl (cJ, 5, .inr (.inl e)))]) hN hK hP hD) rfl rfl hl.1 rfl (lv_room (Nat.le_of_ble_eq_true rfl)) dX4_miss_1 ⟨Nat.le_of_ble_eq_true rfl, Nat.le_of_ble_eq_true rfl⟩) hP hD hS hA (fun r_1 u_1 H locs p_1 hP hD hS => ?_)
  rcases p_1 with ⟨p_1, rfl⟩ | ⟨p_1, rfl⟩
  · have hP : va_P D vwCl ([(h, .inr (4, [.ref sa, .ref pa, .int (nI p), .ref er, .ref na, .long (e 5), .long (e 6), .long (e 7), .long hs])), (sa, .inl (cI, 71, .inl s)), (pa, .inl (cI, 284, .inl past)), (er, .inl (cI, 3, .inl err)), (na, .inl (cJ, 5, .inr (.inl e)))]) H := hP
    have hD : va_D A ([(h, .inr (4, [.ref sa, .ref pa, .int (nI p), .ref er, .ref na, .long (e 5), .long (e 6), .long (e 7), .long hs])), (sa, .inl (cI, 71, .inl s)), (pa, .inl (cI, 284, .inl past)), (er, .inl (cI, 3, .inl err)), (na, .inl (cJ, 5, .inr (.inl e)))]) := hD
    refine lv_if_ne (tgt := 14) hx hb dX4_miss_4 (by decide) (fun c_2 => ?_) (fun c_2 => ?_)
    · skip
      refine lv_aload_n hx hb dX4_miss_14 rfl (lv_at hl 0 rfl) ?_
      refine kc_v (wc := [(h, .inr (4, [.ref sa, .ref pa, .int (nI p), .ref er, .ref na, .long (e 5), .long (e 6), .long (e 7), .long hs])), (sa, .inl (cI, 71, .inl s)), (pa, .inl (cI, 284, .inl past))]) (wr := [(er, .inl (cI, 3, .inl err)), (na, .inl (cJ, 5, .inr (.inl e)))]) (va_runV (As := []) (rest := []) ⟨hx, hb, hml, hown, hts⟩ (k_X4_note l D cI cM cJ _ h sa pa er na p (e 5) (e 6) (e 7) hs s past hp) (cwV 0 hts gX4_miss_X4_note rfl rfl rfl (by decide +kernel) ⟨Nat.le_of_ble_eq_true rfl, Nat.le_of_ble_eq_true rfl⟩) (kp_preV (q := (RX4, TX4, 9)) (wc := [(h, .inr (4, [.ref sa, .ref pa, .int (nI p), .ref er, .ref na, .long (e 5), .long (e 6), .long (e 7), .long hs])), (sa, .inl (cI, 71, .inl s)), (pa, .inl (cI, 284, .inl past))]) (wr := [(er, .inl (cI, 3, .inl err)), (na, .inl (cJ, 5, .inr (.inl e)))]) hN hK hP hD 0 rfl rfl) rfl rfl hl.1 rfl (lv_room (Nat.le_of_ble_eq_true rfl)) dX4_miss_15 ⟨Nat.le_of_ble_eq_true rfl, Nat.le_of_ble_eq_true rfl⟩) hP hD hS hA (fun u_3 H locs p_3 hP hD hS => ?_)
      have hP : va_P D vwCl ([(h, .inr (4, [.ref sa, .ref pa, .int (nI (tk_np p)), .ref er, .ref na, .long (e 5), .long (e 6), .long (e 7), .long hs])), (sa, .inl (cI, 71, .inl s)), (pa, .inl (cI, 284, .inl (tk_nP past p s))), (er, .inl (cI, 3, .inl err)), (na, .inl (cJ, 5, .inr (.inl e)))]) H := hP
      have hD : va_D A ([(h, .inr (4, [.ref sa, .ref pa, .int (nI (tk_np p)), .ref er, .ref na, .long (e 5), .long (e 6), .long (e 7), .long hs])), (sa, .inl (cI, 71, .inl s)), (pa, .inl (cI, 284, .inl (tk_nP past p s))), (er, .inl (cI, 3, .inl err)), (na, .inl (cJ, 5, .inr (.inl e)))]) := hD
      refine lv_aload_n hx hb dX4_miss_18 rfl (lv_at hl 0 rfl) ?_
      refine va_get (D := D) (ci := 4) (v := .ref sa) (C := RX4) (T := TX4) (N := 9) hx hb hts izX4_miss_4 hown hK hP 0 rfl rfl 0 (by decide) (hm 2 (.fieldLink RX4 7 "TankFilterModel" "s" "[I") rfl) (fun _ h9 => h9) rfl dX4_miss_19 ?_
      refine lv_bipush (v := 21) hx hb dX4_miss_22 (by decide) ?_
      refine lv_dup2_11 hx hb dX4_miss_24 rfl rfl ?_
      refine ka_ild (D := D) (j := 21) (n := 71) (f := s) hx hb hK hP 1 0 rfl rfl (rfl) (by decide) (by decide) dX4_miss_25 ?_
      refine lv_iconst (v := 1) hx hb dX4_miss_26 (by decide) ?_
      refine lv_iadd hx hb dX4_miss_27 ?_
      refine ka_ist (D := D) (j := 21) (n := 71) (f := s) hx hb hK hP hD hS 1 0 rfl rfl (rfl) (by decide) (by decide) dX4_miss_28 (fun H locs hP hD hS => ?_)
      have hP : va_P D vwCl ([(h, .inr (4, [.ref sa, .ref pa, .int (nI (tk_np p)), .ref er, .ref na, .long (e 5), .long (e 6), .long (e 7), .long hs])), (sa, .inl (cI, 71, .inl (upd s 21 ((s 21) + 1)))), (pa, .inl (cI, 284, .inl (tk_nP past p s))), (er, .inl (cI, 3, .inl err)), (na, .inl (cJ, 5, .inr (.inl e)))]) H := hP
      have hD : va_D A ([(h, .inr (4, [.ref sa, .ref pa, .int (nI (tk_np p)), .ref er, .ref na, .long (e 5), .long (e 6), .long (e 7), .long hs])), (sa, .inl (cI, 71, .inl (upd s 21 ((s 21) + 1)))), (pa, .inl (cI, 284, .inl (tk_nP past p s))), (er, .inl (cI, 3, .inl err)), (na, .inl (cJ, 5, .inr (.inl e)))]) := hD
      refine lv_aload_n hx hb dX4_miss_29 rfl (lv_at hl 0 rfl) ?_
      refine va_get (D := D) (ci := 4) (v := .ref sa) (C := RX4) (T := TX4) (N := 9) hx hb hts izX4_miss_4 hown hK hP 0 rfl rfl 0 (by decide) (hm 2 (.fieldLink RX4 7 "TankFilterModel" "s" "[I") rfl) (fun _ h9 => h9) rfl dX4_miss_30 ?_
      refine lv_bipush (v := 21) hx hb dX4_miss_33 (by decide) ?_
      refine ka_ild (D := D) (j := 21) (n := 71) (f := upd s 21 ((s 21) + 1)) hx hb hK hP 1 0 rfl rfl (rfl) (by decide) (by decide) dX4_miss_35 ?_
      refine ka_fold (y := (s 21) + 1) rfl ?_
      have hyf : yf_miss (p, s, past, err) y = (s 21 + 1, tk_nv (p, s, past, err) (upd s 21 (s 21 + 1))) := by rw [yf_miss, if_pos p_1]
      exact W.iret (v := (s 21) + 1) hx hb hr (fun zt ht hW => ⟨⟨(s 21) + 1, (tk_nv (p, s, past, err) (upd s 21 (s 21 + 1)), e, hs), rfl, ⟨by rw [hyf], by rw [hyf]⟩, KB.of hAe (by rw [ht]; exact hP) hD⟩, hS.F ht⟩) hS.2.2 dX4_miss_36
    · exact absurd c_2 (by decide)
  · have hP : va_P D vwCl ([(h, .inr (4, [.ref sa, .ref pa, .int (nI p), .ref er, .ref na, .long (e 5), .long (e 6), .long (e 7), .long hs])), (sa, .inl (cI, 71, .inl s)), (pa, .inl (cI, 284, .inl past)), (er, .inl (cI, 3, .inl err)), (na, .inl (cJ, 5, .inr (.inl e)))]) H := hP
    have hD : va_D A ([(h, .inr (4, [.ref sa, .ref pa, .int (nI p), .ref er, .ref na, .long (e 5), .long (e 6), .long (e 7), .long hs])), (sa, .inl (cI, 71, .inl s)), (pa, .inl (cI, 284, .inl past)), (er, .inl (cI, 3, .inl err)), (na, .inl (cJ, 5, .inr (.inl e)))]) := hD
    refine lv_if_ne (tgt := 14) hx hb dX4_miss_4 (by decide) (fun c_4 => ?_) (fun c_4 => ?_)
    · exact absurd c_4 (by decide)
    · skip
      refine lv_aload_n hx hb dX4_miss_7 rfl (lv_at hl 0 rfl) ?_
      refine lv_ldc (v := -2000000002) hx hb hown (hm 1 (.constant RX4 26 (-2000000002)) rfl) dX4_miss_8 ?_
      obtain ⟨hP, hD⟩ := kp_sub (ws' := [(h, .inr (4, [.ref sa, .ref pa, .int (nI p), .ref er, .ref na, .long (e 5), .long (e 6), .long (e 7), .long hs])), (er, .inl (cI, 3, .inl err)), (sa, .inl (cI, 71, .inl s)), (pa, .inl (cI, 284, .inl past)), (na, .inl (cJ, 5, .inr (.inl e)))]) hP hD [0, 3, 1, 2, 4] (by decide) rfl
      refine kc_i (wc := [(h, .inr (4, [.ref sa, .ref pa, .int (nI p), .ref er, .ref na, .long (e 5), .long (e 6), .long (e 7), .long hs])), (er, .inl (cI, 3, .inl err))]) (wr := [(sa, .inl (cI, 71, .inl s)), (pa, .inl (cI, 284, .inl past)), (na, .inl (cJ, 5, .inr (.inl e)))]) (va_runV (As := [.int (-2000000002)]) (rest := []) ⟨hx, hb, hml, hown, hts⟩ (k_X4_fail l D cI cM cJ _ h sa pa er na (nI p) (e 5) (e 6) (e 7) hs err (-2000000002) 0 (by decide) (by decide)) (cwV 1 hts gX4_miss_X4_fail rfl rfl rfl (by decide +kernel) ⟨Nat.le_of_ble_eq_true rfl, Nat.le_of_ble_eq_true rfl⟩) (kp_preV (q := (RX4, TX4, 9)) (wc := [(h, .inr (4, [.ref sa, .ref pa, .int (nI p), .ref er, .ref na, .long (e 5), .long (e 6), .long (e 7), .long hs])), (er, .inl (cI, 3, .inl err))]) (wr := [(sa, .inl (cI, 71, .inl s)), (pa, .inl (cI, 284, .inl past)), (na, .inl (cJ, 5, .inr (.inl e)))]) hN hK hP hD 0 rfl rfl) rfl rfl hl.1 rfl (lv_room (Nat.le_of_ble_eq_true rfl)) dX4_miss_10 ⟨Nat.le_of_ble_eq_true rfl, Nat.le_of_ble_eq_true rfl⟩) hP hD hS hA (fun r_5 u_5 H locs p_5 hP hD hS => ?_)
      obtain rfl : r_5 = (-2000000002) := p_5
      obtain ⟨hP, hD⟩ := kp_sub (ws' := [(h, .inr (4, [.ref sa, .ref pa, .int (nI p), .ref er, .ref na, .long (e 5), .long (e 6), .long (e 7), .long hs])), (sa, .inl (cI, 71, .inl s)), (pa, .inl (cI, 284, .inl past)), (er, .inl (cI, 3, .inl (upd err 0 (err 0 + 1)))), (na, .inl (cJ, 5, .inr (.inl e)))]) (ws := [(h, .inr (4, [.ref sa, .ref pa, .int (nI p), .ref er, .ref na, .long (e 5), .long (e 6), .long (e 7), .long hs])), (er, .inl (cI, 3, .inl (upd err 0 (err 0 + 1)))), (sa, .inl (cI, 71, .inl s)), (pa, .inl (cI, 284, .inl past)), (na, .inl (cJ, 5, .inr (.inl e)))]) hP hD [0, 2, 3, 1, 4] (by decide) rfl
      have hP : va_P D vwCl ([(h, .inr (4, [.ref sa, .ref pa, .int (nI p), .ref er, .ref na, .long (e 5), .long (e 6), .long (e 7), .long hs])), (sa, .inl (cI, 71, .inl s)), (pa, .inl (cI, 284, .inl past)), (er, .inl (cI, 3, .inl (upd err 0 (err 0 + 1)))), (na, .inl (cJ, 5, .inr (.inl e)))]) H := hP
      have hD : va_D A ([(h, .inr (4, [.ref sa, .ref pa, .int (nI p), .ref er, .ref na, .long (e 5), .long (e 6), .long (e 7), .long hs])), (sa, .inl (cI, 71, .inl s)), (pa, .inl (cI, 284, .inl past)), (er, .inl (cI, 3, .inl (upd err 0 (err 0 + 1)))), (na, .inl (cJ, 5, .inr (.inl e)))]) := hD
      have hyf : yf_miss (p, s, past, err) y = ((-2000000002), tk_yl (p, s, past, err) 0) := by rw [yf_miss, if_neg p_1]
      exact W.iret (v := (-2000000002)) hx hb hr (fun zt ht hW => ⟨⟨(-2000000002), (tk_yl (p, s, past, err) 0, e, hs), rfl, ⟨by rw [hyf], by rw [hyf]⟩, KB.of hAe (by rw [ht]; exact hP) hD⟩, hS.F ht⟩) hS.2.2 dX4_miss_13

def yf_reset (Y : tk_Y) (x y z v : Int32) : Int32 × tk_Y := if tk_rng (-40960000) 40960000 x ∧ tk_rng (-4096000) 4096000 y ∧ tk_rng 0 40960000 z ∧ tk_rng 0 40960000 v then (Y.2.1 22, tk_nv Y (tk_fg (upd (upd (upd (upd (upd Y.2.1 0 x) 1 y) 2 z) 3 0) 4 v))) else (-2000000002, tk_yl Y 0)

theorem izX4_reset_4 : ∀ w ∈ wsX40, w ∈ wsX4_reset := fun _ h => List.mem_cons_of_mem _ (List.mem_append_right _ h)
set_option maxHeartbeats 4000000 in
set_option maxRecDepth 100000 in
/-- reset -/
theorem k_X4_reset (l : Launch) (D : va_G) (cI cM cJ : ClassId) (sz : Nat) (h sa pa er na : Nat) (p : Nat) (s past err : Nat → Int32) (e : Nat → Int64) (hs : Int64) (x y z v : Int32) (hp : p ≤ 4) : Met l yX4_reset wsX4_reset ({ frames := 1, cells := 0, slots := 0, locals := 22 }) (va_Pc [.ref h, .int x, .int y, .int z, .int v] (KP D (tk_T cI cM cJ) ([(h, .inr (4, [.ref sa, .ref pa, .int (nI p), .ref er, .ref na, .long (e 5), .long (e 6), .long (e 7), .long hs])), (sa, .inl (cI, 71, .inl s)), (pa, .inl (cI, 284, .inl past)), (er, .inl (cI, 3, .inl err)), (na, .inl (cJ, 5, .inr (.inl e)))]) sz)) (va_Qi (fun (r : Int32) (u : tk_Y × (Nat → Int64) × Int64) => r = (yf_reset (p, s, past, err) x y z v).1 ∧ u.1 = (yf_reset (p, s, past, err) x y z v).2) (fun u zt => KB D ([(h, .inr (4, [.ref sa, .ref pa, .int (nI p), .ref er, .ref na, .long (e 5), .long (e 6), .long (e 7), .long hs])), (sa, .inl (cI, 71, .inl s)), (pa, .inl (cI, 284, .inl past)), (er, .inl (cI, 3, .inl err)), (na, .inl (cJ, 5, .inr (.inl e)))]) ([(h, .inr (4, [.ref sa, .ref pa, .int (nI u.1.1), .ref er, .ref na, .long (u.2.1 5), .long (u.2.1 6), .long (u.2.1 7), .long u.2.2])), (sa, .inl (cI, 71, .inl u.1.2.1)), (pa, .inl (cI, 284, .inl u.1.2.2.1)), (er, .inl (cI, 3, .inl u.1.2.2.2)), (na, .inl (cJ, 5, .inr (.inl u.2.1)))]) sz zt) (va_A ([(h, .inr (4, [.ref sa, .ref pa, .int (nI p), .ref er, .ref na, .long (e 5), .long (e 6), .long (e 7), .long hs])), (sa, .inl (cI, 71, .inl s)), (pa, .inl (cI, 284, .inl past)), (er, .inl (cI, 3, .inl err)), (na, .inl (cJ, 5, .inr (.inl e)))]) sz)) 0 0 (va_A ([(h, .inr (4, [.ref sa, .ref pa, .int (nI p), .ref er, .ref na, .long (e 5), .long (e 6), .long (e 7), .long hs])), (sa, .inl (cI, 71, .inl s)), (pa, .inl (cI, 284, .inl past)), (er, .inl (cI, 3, .inl err)), (na, .inl (cJ, 5, .inr (.inl e)))]) sz) := by
  refine Met.ofW (cc := cX4_reset) (maxL := 6) (ret := (some .int)) (by decide) rfl ?_
  intro zp ze zs zm zargs zbelow zmeth zc zs1 B hml hv
  obtain ⟨rfl, hsz, hP, hK, hD0, hN⟩ := hv
  have hx := B.exec
  have hb := B.bytes
  have hr := B.returns
  have hts := atoms_spec (ws := wsX4_reset) B.pre
  have hm : ∀ (i : Nat) (w : Cond), wsX4_reset[i]? = some w → w.before _ zs = true := fun i w h => hts w (List.mem_of_getElem? h)
  have hown : zs.vm.findClass RX4 = some zm.cls := findClass_of_methodNamed B.named
  have hlocks := B.notSynchronized
  subst hsz
  have hD := hD0.self (sz := zs.heap.size)
  generalize hAe : va_A ([(h, .inr (4, [.ref sa, .ref pa, .int (nI p), .ref er, .ref na, .long (e 5), .long (e 6), .long (e 7), .long hs])), (sa, .inl (cI, 71, .inl s)), (pa, .inl (cI, 284, .inl past)), (er, .inl (cI, 3, .inl err)), (na, .inl (cJ, 5, .inr (.inl e)))]) zs.heap.size = A at hD ⊢
  have hA : ∀ q : Nat, zs.heap.size ≤ q → A q := fun q h => by rw [← hAe]; exact Or.inr h
  have hS : va_S A zs.heap zs.heap [] := va_S.rf
  have hP : va_P D vwCl ([(h, .inr (4, [.ref sa, .ref pa, .int (nI p), .ref er, .ref na, .long (e 5), .long (e 6), .long (e 7), .long hs])), (sa, .inl (cI, 71, .inl s)), (pa, .inl (cI, 284, .inl past)), (er, .inl (cI, 3, .inl err)), (na, .inl (cJ, 5, .inr (.inl e)))]) zs.heap := hP
  have hl := lv_entry ([.ref h, .int x, .int y, .int z, .int v]) (n := 6) (Nat.le_of_ble_eq_true rfl)
  rw [lg_entry_eq]
  generalize (lg_sl ([.ref h, .int x, .int y, .int z, .int v]) ++ List.replicate (6 - (lg_sl ([.ref h, .int x, .int y, .int z, .int v])).length) Slot.unset).toArray = ls at hl ⊢
  have hl : lv_has ls 6 [(0, .ref h), (1, .int x), (2, .int y), (3, .int z), (4, .int v)] := hl
  refine lv_iload_n hx hb dX4_reset_0 rfl (lv_at hl 1 rfl) ?_
  refine lv_ldc (v := -40960000) hx hb hown (hm 1 (.constant RX4 66 (-40960000)) rfl) dX4_reset_1 ?_
  refine lv_ldc (v := 40960000) hx hb hown (hm 2 (.constant RX4 67 (40960000)) rfl) dX4_reset_3 ?_
  refine kc_i (wc := []) (wr := [(h, .inr (4, [.ref sa, .ref pa, .int (nI p), .ref er, .ref na, .long (e 5), .long (e 6), .long (e 7), .long hs])), (sa, .inl (cI, 71, .inl s)), (pa, .inl (cI, 284, .inl past)), (er, .inl (cI, 3, .inl err)), (na, .inl (cJ, 5, .inr (.inl e)))]) (va_runS (As := [.int x, .int (-40960000), .int 40960000]) (rest := []) ⟨hx, hb, hml, hown, hts⟩ (k_X4_in l D cI cM cJ _ x (-40960000) 40960000) (va_cwS 3 hts gX4_reset_X4_in rfl rfl rfl (by decide +kernel) ⟨Nat.le_of_ble_eq_true rfl, Nat.le_of_ble_eq_true rfl⟩) (kp_preS (wc := []) (wr := [(h, .inr (4, [.ref sa, .ref pa, .int (nI p), .ref er, .ref na, .long (e 5), .long (e 6), .long (e 7), .long hs])), (sa, .inl (cI, 71, .inl s)), (pa, .inl (cI, 284, .inl past)), (er, .inl (cI, 3, .inl err)), (na, .inl (cJ, 5, .inr (.inl e)))]) hN hK hP hD) rfl rfl hl.1 rfl (lv_room (Nat.le_of_ble_eq_true rfl)) dX4_reset_5 ⟨Nat.le_of_ble_eq_true rfl, Nat.le_of_ble_eq_true rfl⟩) hP hD hS hA (fun r_1 u_1 H locs p_1 hP hD hS => ?_)
  rcases p_1 with ⟨p_1, rfl⟩ | ⟨p_1, rfl⟩
  · have hP : va_P D vwCl ([(h, .inr (4, [.ref sa, .ref pa, .int (nI p), .ref er, .ref na, .long (e 5), .long (e 6), .long (e 7), .long hs])), (sa, .inl (cI, 71, .inl s)), (pa, .inl (cI, 284, .inl past)), (er, .inl (cI, 3, .inl err)), (na, .inl (cJ, 5, .inr (.inl e)))]) H := hP
    have hD : va_D A ([(h, .inr (4, [.ref sa, .ref pa, .int (nI p), .ref er, .ref na, .long (e 5), .long (e 6), .long (e 7), .long hs])), (sa, .inl (cI, 71, .inl s)), (pa, .inl (cI, 284, .inl past)), (er, .inl (cI, 3, .inl err)), (na, .inl (cJ, 5, .inr (.inl e)))]) := hD
    refine lv_if_eq (tgt := 43) hx hb dX4_reset_8 (by decide) (fun c_2 => ?_) (fun c_2 => ?_)
    · exact absurd c_2 (by decide)
    · skip
      refine lv_iload_n hx hb dX4_reset_11 rfl (lv_at hl 2 rfl) ?_
      refine lv_ldc (v := -4096000) hx hb hown (hm 3 (.constant RX4 72 (-4096000)) rfl) dX4_reset_12 ?_
      refine lv_ldc (v := 4096000) hx hb hown (hm 4 (.constant RX4 73 (4096000)) rfl) dX4_reset_14 ?_
      refine kc_i (wc := []) (wr := [(h, .inr (4, [.ref sa, .ref pa, .int (nI p), .ref er, .ref na, .long (e 5), .long (e 6), .long (e 7), .long hs])), (sa, .inl (cI, 71, .inl s)), (pa, .inl (cI, 284, .inl past)), (er, .inl (cI, 3, .inl err)), (na, .inl (cJ, 5, .inr (.inl e)))]) (va_runS (As := [.int y, .int (-4096000), .int 4096000]) (rest := []) ⟨hx, hb, hml, hown, hts⟩ (k_X4_in l D cI cM cJ _ y (-4096000) 4096000) (va_cwS 3 hts gX4_reset_X4_in rfl rfl rfl (by decide +kernel) ⟨Nat.le_of_ble_eq_true rfl, Nat.le_of_ble_eq_true rfl⟩) (kp_preS (wc := []) (wr := [(h, .inr (4, [.ref sa, .ref pa, .int (nI p), .ref er, .ref na, .long (e 5), .long (e 6), .long (e 7), .long hs])), (sa, .inl (cI, 71, .inl s)), (pa, .inl (cI, 284, .inl past)), (er, .inl (cI, 3, .inl err)), (na, .inl (cJ, 5, .inr (.inl e)))]) hN hK hP hD) rfl rfl hl.1 rfl (lv_room (Nat.le_of_ble_eq_true rfl)) dX4_reset_16 ⟨Nat.le_of_ble_eq_true rfl, Nat.le_of_ble_eq_true rfl⟩) hP hD hS hA (fun r_3 u_3 H locs p_3 hP hD hS => ?_)
      rcases p_3 with ⟨p_3, rfl⟩ | ⟨p_3, rfl⟩
      · have hP : va_P D vwCl ([(h, .inr (4, [.ref sa, .ref pa, .int (nI p), .ref er, .ref na, .long (e 5), .long (e 6), .long (e 7), .long hs])), (sa, .inl (cI, 71, .inl s)), (pa, .inl (cI, 284, .inl past)), (er, .inl (cI, 3, .inl err)), (na, .inl (cJ, 5, .inr (.inl e)))]) H := hP
        have hD : va_D A ([(h, .inr (4, [.ref sa, .ref pa, .int (nI p), .ref er, .ref na, .long (e 5), .long (e 6), .long (e 7), .long hs])), (sa, .inl (cI, 71, .inl s)), (pa, .inl (cI, 284, .inl past)), (er, .inl (cI, 3, .inl err)), (na, .inl (cJ, 5, .inr (.inl e)))]) := hD
        refine lv_if_eq (tgt := 43) hx hb dX4_reset_19 (by decide) (fun c_4 => ?_) (fun c_4 => ?_)
        · exact absurd c_4 (by decide)
        · skip
          refine lv_iload_n hx hb dX4_reset_22 rfl (lv_at hl 3 rfl) ?_
          refine lv_iconst (v := 0) hx hb dX4_reset_23 (by decide) ?_
          refine lv_ldc (v := 40960000) hx hb hown (hm 2 (.constant RX4 67 (40960000)) rfl) dX4_reset_24 ?_
          refine kc_i (wc := []) (wr := [(h, .inr (4, [.ref sa, .ref pa, .int (nI p), .ref er, .ref na, .long (e 5), .long (e 6), .long (e 7), .long hs])), (sa, .inl (cI, 71, .inl s)), (pa, .inl (cI, 284, .inl past)), (er, .inl (cI, 3, .inl err)), (na, .inl (cJ, 5, .inr (.inl e)))]) (va_runS (As := [.int z, .int 0, .int 40960000]) (rest := []) ⟨hx, hb, hml, hown, hts⟩ (k_X4_in l D cI cM cJ _ z 0 40960000) (va_cwS 3 hts gX4_reset_X4_in rfl rfl rfl (by decide +kernel) ⟨Nat.le_of_ble_eq_true rfl, Nat.le_of_ble_eq_true rfl⟩) (kp_preS (wc := []) (wr := [(h, .inr (4, [.ref sa, .ref pa, .int (nI p), .ref er, .ref na, .long (e 5), .long (e 6), .long (e 7), .long hs])), (sa, .inl (cI, 71, .inl s)), (pa, .inl (cI, 284, .inl past)), (er, .inl (cI, 3, .inl err)), (na, .inl (cJ, 5, .inr (.inl e)))]) hN hK hP hD) rfl rfl hl.1 rfl (lv_room (Nat.le_of_ble_eq_true rfl)) dX4_reset_26 ⟨Nat.le_of_ble_eq_true rfl, Nat.le_of_ble_eq_true rfl⟩) hP hD hS hA (fun r_5 u_5 H locs p_5 hP hD hS => ?_)
          rcases p_5 with ⟨p_5, rfl⟩ | ⟨p_5, rfl⟩
          · have hP : va_P D vwCl ([(h, .inr (4, [.ref sa, .ref pa, .int (nI p), .ref er, .ref na, .long (e 5), .long (e 6), .long (e 7), .long hs])), (sa, .inl (cI, 71, .inl s)), (pa, .inl (cI, 284, .inl past)), (er, .inl (cI, 3, .inl err)), (na, .inl (cJ, 5, .inr (.inl e)))]) H := hP
            have hD : va_D A ([(h, .inr (4, [.ref sa, .ref pa, .int (nI p), .ref er, .ref na, .long (e 5), .long (e 6), .long (e 7), .long hs])), (sa, .inl (cI, 71, .inl s)), (pa, .inl (cI, 284, .inl past)), (er, .inl (cI, 3, .inl err)), (na, .inl (cJ, 5, .inr (.inl e)))]) := hD
            refine lv_if_eq (tgt := 43) hx hb dX4_reset_29 (by decide) (fun c_6 => ?_) (fun c_6 => ?_)
            · exact absurd c_6 (by decide)
            · skip
              refine lv_iload hx hb dX4_reset_32 (lv_at hl 4 rfl) ?_
              refine lv_iconst (v := 0) hx hb dX4_reset_34 (by decide) ?_
              refine lv_ldc (v := 40960000) hx hb hown (hm 2 (.constant RX4 67 (40960000)) rfl) dX4_reset_35 ?_
              refine kc_i (wc := []) (wr := [(h, .inr (4, [.ref sa, .ref pa, .int (nI p), .ref er, .ref na, .long (e 5), .long (e 6), .long (e 7), .long hs])), (sa, .inl (cI, 71, .inl s)), (pa, .inl (cI, 284, .inl past)), (er, .inl (cI, 3, .inl err)), (na, .inl (cJ, 5, .inr (.inl e)))]) (va_runS (As := [.int v, .int 0, .int 40960000]) (rest := []) ⟨hx, hb, hml, hown, hts⟩ (k_X4_in l D cI cM cJ _ v 0 40960000) (va_cwS 3 hts gX4_reset_X4_in rfl rfl rfl (by decide +kernel) ⟨Nat.le_of_ble_eq_true rfl, Nat.le_of_ble_eq_true rfl⟩) (kp_preS (wc := []) (wr := [(h, .inr (4, [.ref sa, .ref pa, .int (nI p), .ref er, .ref na, .long (e 5), .long (e 6), .long (e 7), .long hs])), (sa, .inl (cI, 71, .inl s)), (pa, .inl (cI, 284, .inl past)), (er, .inl (cI, 3, .inl err)), (na, .inl (cJ, 5, .inr (.inl e)))]) hN hK hP hD) rfl rfl hl.1 rfl (lv_room (Nat.le_of_ble_eq_true rfl)) dX4_reset_37 ⟨Nat.le_of_ble_eq_true rfl, Nat.le_of_ble_eq_true rfl⟩) hP hD hS hA (fun r_7 u_7 H locs p_7 hP hD hS => ?_)
              rcases p_7 with ⟨p_7, rfl⟩ | ⟨p_7, rfl⟩
              · have hP : va_P D vwCl ([(h, .inr (4, [.ref sa, .ref pa, .int (nI p), .ref er, .ref na, .long (e 5), .long (e 6), .long (e 7), .long hs])), (sa, .inl (cI, 71, .inl s)), (pa, .inl (cI, 284, .inl past)), (er, .inl (cI, 3, .inl err)), (na, .inl (cJ, 5, .inr (.inl e)))]) H := hP
                have hD : va_D A ([(h, .inr (4, [.ref sa, .ref pa, .int (nI p), .ref er, .ref na, .long (e 5), .long (e 6), .long (e 7), .long hs])), (sa, .inl (cI, 71, .inl s)), (pa, .inl (cI, 284, .inl past)), (er, .inl (cI, 3, .inl err)), (na, .inl (cJ, 5, .inr (.inl e)))]) := hD
                refine lv_if_ne (tgt := 50) hx hb dX4_reset_40 (by decide) (fun c_8 => ?_) (fun c_8 => ?_)
                · skip
                  refine lv_aload_n hx hb dX4_reset_50 rfl (lv_at hl 0 rfl) ?_
                  refine kc_v (wc := [(h, .inr (4, [.ref sa, .ref pa, .int (nI p), .ref er, .ref na, .long (e 5), .long (e 6), .long (e 7), .long hs])), (sa, .inl (cI, 71, .inl s)), (pa, .inl (cI, 284, .inl past))]) (wr := [(er, .inl (cI, 3, .inl err)), (na, .inl (cJ, 5, .inr (.inl e)))]) (va_runV (As := []) (rest := []) ⟨hx, hb, hml, hown, hts⟩ (k_X4_note l D cI cM cJ _ h sa pa er na p (e 5) (e 6) (e 7) hs s past hp) (cwV 0 hts gX4_reset_X4_note rfl rfl rfl (by decide +kernel) ⟨Nat.le_of_ble_eq_true rfl, Nat.le_of_ble_eq_true rfl⟩) (kp_preV (q := (RX4, TX4, 9)) (wc := [(h, .inr (4, [.ref sa, .ref pa, .int (nI p), .ref er, .ref na, .long (e 5), .long (e 6), .long (e 7), .long hs])), (sa, .inl (cI, 71, .inl s)), (pa, .inl (cI, 284, .inl past))]) (wr := [(er, .inl (cI, 3, .inl err)), (na, .inl (cJ, 5, .inr (.inl e)))]) hN hK hP hD 0 rfl rfl) rfl rfl hl.1 rfl (lv_room (Nat.le_of_ble_eq_true rfl)) dX4_reset_51 ⟨Nat.le_of_ble_eq_true rfl, Nat.le_of_ble_eq_true rfl⟩) hP hD hS hA (fun u_9 H locs p_9 hP hD hS => ?_)
                  have hP : va_P D vwCl ([(h, .inr (4, [.ref sa, .ref pa, .int (nI (tk_np p)), .ref er, .ref na, .long (e 5), .long (e 6), .long (e 7), .long hs])), (sa, .inl (cI, 71, .inl s)), (pa, .inl (cI, 284, .inl (tk_nP past p s))), (er, .inl (cI, 3, .inl err)), (na, .inl (cJ, 5, .inr (.inl e)))]) H := hP
                  have hD : va_D A ([(h, .inr (4, [.ref sa, .ref pa, .int (nI (tk_np p)), .ref er, .ref na, .long (e 5), .long (e 6), .long (e 7), .long hs])), (sa, .inl (cI, 71, .inl s)), (pa, .inl (cI, 284, .inl (tk_nP past p s))), (er, .inl (cI, 3, .inl err)), (na, .inl (cJ, 5, .inr (.inl e)))]) := hD
                  refine lv_aload_n hx hb dX4_reset_54 rfl (lv_at hl 0 rfl) ?_
                  refine va_get (D := D) (ci := 4) (v := .ref sa) (C := RX4) (T := TX4) (N := 9) hx hb hts izX4_reset_4 hown hK hP 0 rfl rfl 0 (by decide) (hm 6 (.fieldLink RX4 7 "TankFilterModel" "s" "[I") rfl) (fun _ h9 => h9) rfl dX4_reset_55 ?_
                  refine lv_bipush (v := 22) hx hb dX4_reset_58 (by decide) ?_
                  refine ka_ild (D := D) (j := 22) (n := 71) (f := s) hx hb hK hP 1 0 rfl rfl (rfl) (by decide) (by decide) dX4_reset_60 ?_
                  refine lv_istore (lv' := [(5, .int (s 22)), (0, .ref h), (1, .int x), (2, .int y), (3, .int z), (4, .int v)]) hx hb dX4_reset_61 hl (by decide) rfl (fun ls hl => ?_)
                  refine lv_aload_n hx hb dX4_reset_63 rfl (lv_at hl 1 rfl) ?_
                  refine va_get (D := D) (ci := 4) (v := .ref sa) (C := RX4) (T := TX4) (N := 9) hx hb hts izX4_reset_4 hown hK hP 0 rfl rfl 0 (by decide) (hm 6 (.fieldLink RX4 7 "TankFilterModel" "s" "[I") rfl) (fun _ h9 => h9) rfl dX4_reset_64 ?_
                  refine lv_iconst (v := 0) hx hb dX4_reset_67 (by decide) ?_
                  refine lv_iload_n hx hb dX4_reset_68 rfl (lv_at hl 2 rfl) ?_
                  refine ka_ist (D := D) (j := 0) (n := 71) (f := s) hx hb hK hP hD hS 1 0 rfl rfl (rfl) (by decide) (by decide) dX4_reset_69 (fun H locs hP hD hS => ?_)
                  have hP : va_P D vwCl ([(h, .inr (4, [.ref sa, .ref pa, .int (nI (tk_np p)), .ref er, .ref na, .long (e 5), .long (e 6), .long (e 7), .long hs])), (sa, .inl (cI, 71, .inl (upd s 0 x))), (pa, .inl (cI, 284, .inl (tk_nP past p s))), (er, .inl (cI, 3, .inl err)), (na, .inl (cJ, 5, .inr (.inl e)))]) H := hP
                  have hD : va_D A ([(h, .inr (4, [.ref sa, .ref pa, .int (nI (tk_np p)), .ref er, .ref na, .long (e 5), .long (e 6), .long (e 7), .long hs])), (sa, .inl (cI, 71, .inl (upd s 0 x))), (pa, .inl (cI, 284, .inl (tk_nP past p s))), (er, .inl (cI, 3, .inl err)), (na, .inl (cJ, 5, .inr (.inl e)))]) := hD
                  refine lv_aload_n hx hb dX4_reset_70 rfl (lv_at hl 1 rfl) ?_
                  refine va_get (D := D) (ci := 4) (v := .ref sa) (C := RX4) (T := TX4) (N := 9) hx hb hts izX4_reset_4 hown hK hP 0 rfl rfl 0 (by decide) (hm 6 (.fieldLink RX4 7 "TankFilterModel" "s" "[I") rfl) (fun _ h9 => h9) rfl dX4_reset_71 ?_
                  refine lv_iconst (v := 1) hx hb dX4_reset_74 (by decide) ?_
                  refine lv_iload_n hx hb dX4_reset_75 rfl (lv_at hl 3 rfl) ?_
                  refine ka_ist (D := D) (j := 1) (n := 71) (f := upd s 0 x) hx hb hK hP hD hS 1 0 rfl rfl (rfl) (by decide) (by decide) dX4_reset_76 (fun H locs hP hD hS => ?_)
                  have hP : va_P D vwCl ([(h, .inr (4, [.ref sa, .ref pa, .int (nI (tk_np p)), .ref er, .ref na, .long (e 5), .long (e 6), .long (e 7), .long hs])), (sa, .inl (cI, 71, .inl (upd (upd s 0 x) 1 y))), (pa, .inl (cI, 284, .inl (tk_nP past p s))), (er, .inl (cI, 3, .inl err)), (na, .inl (cJ, 5, .inr (.inl e)))]) H := hP
                  have hD : va_D A ([(h, .inr (4, [.ref sa, .ref pa, .int (nI (tk_np p)), .ref er, .ref na, .long (e 5), .long (e 6), .long (e 7), .long hs])), (sa, .inl (cI, 71, .inl (upd (upd s 0 x) 1 y))), (pa, .inl (cI, 284, .inl (tk_nP past p s))), (er, .inl (cI, 3, .inl err)), (na, .inl (cJ, 5, .inr (.inl e)))]) := hD
                  refine lv_aload_n hx hb dX4_reset_77 rfl (lv_at hl 1 rfl) ?_
                  refine va_get (D := D) (ci := 4) (v := .ref sa) (C := RX4) (T := TX4) (N := 9) hx hb hts izX4_reset_4 hown hK hP 0 rfl rfl 0 (by decide) (hm 6 (.fieldLink RX4 7 "TankFilterModel" "s" "[I") rfl) (fun _ h9 => h9) rfl dX4_reset_78 ?_
                  refine lv_iconst (v := 2) hx hb dX4_reset_81 (by decide) ?_
                  refine lv_iload_n hx hb dX4_reset_82 rfl (lv_at hl 4 rfl) ?_
                  refine ka_ist (D := D) (j := 2) (n := 71) (f := upd (upd s 0 x) 1 y) hx hb hK hP hD hS 1 0 rfl rfl (rfl) (by decide) (by decide) dX4_reset_83 (fun H locs hP hD hS => ?_)
                  have hP : va_P D vwCl ([(h, .inr (4, [.ref sa, .ref pa, .int (nI (tk_np p)), .ref er, .ref na, .long (e 5), .long (e 6), .long (e 7), .long hs])), (sa, .inl (cI, 71, .inl (upd (upd (upd s 0 x) 1 y) 2 z))), (pa, .inl (cI, 284, .inl (tk_nP past p s))), (er, .inl (cI, 3, .inl err)), (na, .inl (cJ, 5, .inr (.inl e)))]) H := hP
                  have hD : va_D A ([(h, .inr (4, [.ref sa, .ref pa, .int (nI (tk_np p)), .ref er, .ref na, .long (e 5), .long (e 6), .long (e 7), .long hs])), (sa, .inl (cI, 71, .inl (upd (upd (upd s 0 x) 1 y) 2 z))), (pa, .inl (cI, 284, .inl (tk_nP past p s))), (er, .inl (cI, 3, .inl err)), (na, .inl (cJ, 5, .inr (.inl e)))]) := hD
                  refine lv_aload_n hx hb dX4_reset_84 rfl (lv_at hl 1 rfl) ?_
                  refine va_get (D := D) (ci := 4) (v := .ref sa) (C := RX4) (T := TX4) (N := 9) hx hb hts izX4_reset_4 hown hK hP 0 rfl rfl 0 (by decide) (hm 6 (.fieldLink RX4 7 "TankFilterModel" "s" "[I") rfl) (fun _ h9 => h9) rfl dX4_reset_85 ?_
                  refine lv_iconst (v := 3) hx hb dX4_reset_88 (by decide) ?_
                  refine lv_iconst (v := 0) hx hb dX4_reset_89 (by decide) ?_
                  refine ka_ist (D := D) (j := 3) (n := 71) (f := upd (upd (upd s 0 x) 1 y) 2 z) hx hb hK hP hD hS 1 0 rfl rfl (rfl) (by decide) (by decide) dX4_reset_90 (fun H locs hP hD hS => ?_)
                  have hP : va_P D vwCl ([(h, .inr (4, [.ref sa, .ref pa, .int (nI (tk_np p)), .ref er, .ref na, .long (e 5), .long (e 6), .long (e 7), .long hs])), (sa, .inl (cI, 71, .inl (upd (upd (upd (upd s 0 x) 1 y) 2 z) 3 0))), (pa, .inl (cI, 284, .inl (tk_nP past p s))), (er, .inl (cI, 3, .inl err)), (na, .inl (cJ, 5, .inr (.inl e)))]) H := hP
                  have hD : va_D A ([(h, .inr (4, [.ref sa, .ref pa, .int (nI (tk_np p)), .ref er, .ref na, .long (e 5), .long (e 6), .long (e 7), .long hs])), (sa, .inl (cI, 71, .inl (upd (upd (upd (upd s 0 x) 1 y) 2 z) 3 0))), (pa, .inl (cI, 284, .inl (tk_nP past p s))), (er, .inl (cI, 3, .inl err)), (na, .inl (cJ, 5, .inr (.inl e)))]) := hD
                  refine lv_aload_n hx hb dX4_reset_91 rfl (lv_at hl 1 rfl) ?_
                  refine va_get (D := D) (ci := 4) (v := .ref sa) (C := RX4) (T := TX4) (N := 9) hx hb hts izX4_reset_4 hown hK hP 0 rfl rfl 0 (by decide) (hm 6 (.fieldLink RX4 7 "TankFilterModel" "s" "[I") rfl) (fun _ h9 => h9) rfl dX4_reset_92 ?_
                  refine lv_iconst (v := 4) hx hb dX4_reset_95 (by decide) ?_
                  refine lv_iload hx hb dX4_reset_96 (lv_at hl 5 rfl) ?_
                  refine ka_ist (D := D) (j := 4) (n := 71) (f := upd (upd (upd (upd s 0 x) 1 y) 2 z) 3 0) hx hb hK hP hD hS 1 0 rfl rfl (rfl) (by decide) (by decide) dX4_reset_98 (fun H locs hP hD hS => ?_)
                  have hP : va_P D vwCl ([(h, .inr (4, [.ref sa, .ref pa, .int (nI (tk_np p)), .ref er, .ref na, .long (e 5), .long (e 6), .long (e 7), .long hs])), (sa, .inl (cI, 71, .inl (upd (upd (upd (upd (upd s 0 x) 1 y) 2 z) 3 0) 4 v))), (pa, .inl (cI, 284, .inl (tk_nP past p s))), (er, .inl (cI, 3, .inl err)), (na, .inl (cJ, 5, .inr (.inl e)))]) H := hP
                  have hD : va_D A ([(h, .inr (4, [.ref sa, .ref pa, .int (nI (tk_np p)), .ref er, .ref na, .long (e 5), .long (e 6), .long (e 7), .long hs])), (sa, .inl (cI, 71, .inl (upd (upd (upd (upd (upd s 0 x) 1 y) 2 z) 3 0) 4 v))), (pa, .inl (cI, 284, .inl (tk_nP past p s))), (er, .inl (cI, 3, .inl err)), (na, .inl (cJ, 5, .inr (.inl e)))]) := hD
                  refine lv_aload_n hx hb dX4_reset_99 rfl (lv_at hl 1 rfl) ?_
                  refine kc_v (wc := [(h, .inr (4, [.ref sa, .ref pa, .int (nI (tk_np p)), .ref er, .ref na, .long (e 5), .long (e 6), .long (e 7), .long hs])), (sa, .inl (cI, 71, .inl (upd (upd (upd (upd (upd s 0 x) 1 y) 2 z) 3 0) 4 v)))]) (wr := [(pa, .inl (cI, 284, .inl (tk_nP past p s))), (er, .inl (cI, 3, .inl err)), (na, .inl (cJ, 5, .inr (.inl e)))]) (va_runV (As := []) (rest := []) ⟨hx, hb, hml, hown, hts⟩ (k_X4_forget l D cI cM cJ _ h sa pa er na (nI (tk_np p)) (e 5) (e 6) (e 7) hs (upd (upd (upd (upd (upd s 0 x) 1 y) 2 z) 3 0) 4 v)) (cwV 0 hts gX4_reset_X4_forget rfl rfl rfl (by decide +kernel) ⟨Nat.le_of_ble_eq_true rfl, Nat.le_of_ble_eq_true rfl⟩) (kp_preV (q := (RX4, TX4, 9)) (wc := [(h, .inr (4, [.ref sa, .ref pa, .int (nI (tk_np p)), .ref er, .ref na, .long (e 5), .long (e 6), .long (e 7), .long hs])), (sa, .inl (cI, 71, .inl (upd (upd (upd (upd (upd s 0 x) 1 y) 2 z) 3 0) 4 v)))]) (wr := [(pa, .inl (cI, 284, .inl (tk_nP past p s))), (er, .inl (cI, 3, .inl err)), (na, .inl (cJ, 5, .inr (.inl e)))]) hN hK hP hD 0 rfl rfl) rfl rfl hl.1 rfl (lv_room (Nat.le_of_ble_eq_true rfl)) dX4_reset_100 ⟨Nat.le_of_ble_eq_true rfl, Nat.le_of_ble_eq_true rfl⟩) hP hD hS hA (fun u_10 H locs p_10 hP hD hS => ?_)
                  have hP : va_P D vwCl ([(h, .inr (4, [.ref sa, .ref pa, .int (nI (tk_np p)), .ref er, .ref na, .long (e 5), .long (e 6), .long (e 7), .long hs])), (sa, .inl (cI, 71, .inl (tk_fg (upd (upd (upd (upd (upd s 0 x) 1 y) 2 z) 3 0) 4 v)))), (pa, .inl (cI, 284, .inl (tk_nP past p s))), (er, .inl (cI, 3, .inl err)), (na, .inl (cJ, 5, .inr (.inl e)))]) H := hP
                  have hD : va_D A ([(h, .inr (4, [.ref sa, .ref pa, .int (nI (tk_np p)), .ref er, .ref na, .long (e 5), .long (e 6), .long (e 7), .long hs])), (sa, .inl (cI, 71, .inl (tk_fg (upd (upd (upd (upd (upd s 0 x) 1 y) 2 z) 3 0) 4 v)))), (pa, .inl (cI, 284, .inl (tk_nP past p s))), (er, .inl (cI, 3, .inl err)), (na, .inl (cJ, 5, .inr (.inl e)))]) := hD
                  refine lv_iload hx hb dX4_reset_103 (lv_at hl 0 rfl) ?_
                  have hyf : yf_reset (p, s, past, err) x y z v = (s 22, tk_nv (p, s, past, err) (tk_fg (upd (upd (upd (upd (upd s 0 x) 1 y) 2 z) 3 0) 4 v))) := by rw [yf_reset, if_pos ⟨p_1, p_3, p_5, p_7⟩]
                  exact W.iret (v := s 22) hx hb hr (fun zt ht hW => ⟨⟨s 22, (tk_nv (p, s, past, err) (tk_fg (upd (upd (upd (upd (upd s 0 x) 1 y) 2 z) 3 0) 4 v)), e, hs), rfl, ⟨by rw [hyf], by rw [hyf]⟩, KB.of hAe (by rw [ht]; exact hP) hD⟩, hS.F ht⟩) hS.2.2 dX4_reset_105
                · exact absurd c_8 (by decide)
              · have hP : va_P D vwCl ([(h, .inr (4, [.ref sa, .ref pa, .int (nI p), .ref er, .ref na, .long (e 5), .long (e 6), .long (e 7), .long hs])), (sa, .inl (cI, 71, .inl s)), (pa, .inl (cI, 284, .inl past)), (er, .inl (cI, 3, .inl err)), (na, .inl (cJ, 5, .inr (.inl e)))]) H := hP
                have hD : va_D A ([(h, .inr (4, [.ref sa, .ref pa, .int (nI p), .ref er, .ref na, .long (e 5), .long (e 6), .long (e 7), .long hs])), (sa, .inl (cI, 71, .inl s)), (pa, .inl (cI, 284, .inl past)), (er, .inl (cI, 3, .inl err)), (na, .inl (cJ, 5, .inr (.inl e)))]) := hD
                refine lv_if_ne (tgt := 50) hx hb dX4_reset_40 (by decide) (fun c_11 => ?_) (fun c_11 => ?_)
                · exact absurd c_11 (by decide)
                · skip
                  refine lv_aload_n hx hb dX4_reset_43 rfl (lv_at hl 0 rfl) ?_
                  refine lv_ldc (v := -2000000002) hx hb hown (hm 5 (.constant RX4 26 (-2000000002)) rfl) dX4_reset_44 ?_
                  obtain ⟨hP, hD⟩ := kp_sub (ws' := [(h, .inr (4, [.ref sa, .ref pa, .int (nI p), .ref er, .ref na, .long (e 5), .long (e 6), .long (e 7), .long hs])), (er, .inl (cI, 3, .inl err)), (sa, .inl (cI, 71, .inl s)), (pa, .inl (cI, 284, .inl past)), (na, .inl (cJ, 5, .inr (.inl e)))]) hP hD [0, 3, 1, 2, 4] (by decide) rfl
                  refine kc_i (wc := [(h, .inr (4, [.ref sa, .ref pa, .int (nI p), .ref er, .ref na, .long (e 5), .long (e 6), .long (e 7), .long hs])), (er, .inl (cI, 3, .inl err))]) (wr := [(sa, .inl (cI, 71, .inl s)), (pa, .inl (cI, 284, .inl past)), (na, .inl (cJ, 5, .inr (.inl e)))]) (va_runV (As := [.int (-2000000002)]) (rest := []) ⟨hx, hb, hml, hown, hts⟩ (k_X4_fail l D cI cM cJ _ h sa pa er na (nI p) (e 5) (e 6) (e 7) hs err (-2000000002) 0 (by decide) (by decide)) (cwV 1 hts gX4_reset_X4_fail rfl rfl rfl (by decide +kernel) ⟨Nat.le_of_ble_eq_true rfl, Nat.le_of_ble_eq_true rfl⟩) (kp_preV (q := (RX4, TX4, 9)) (wc := [(h, .inr (4, [.ref sa, .ref pa, .int (nI p), .ref er, .ref na, .long (e 5), .long (e 6), .long (e 7), .long hs])), (er, .inl (cI, 3, .inl err))]) (wr := [(sa, .inl (cI, 71, .inl s)), (pa, .inl (cI, 284, .inl past)), (na, .inl (cJ, 5, .inr (.inl e)))]) hN hK hP hD 0 rfl rfl) rfl rfl hl.1 rfl (lv_room (Nat.le_of_ble_eq_true rfl)) dX4_reset_46 ⟨Nat.le_of_ble_eq_true rfl, Nat.le_of_ble_eq_true rfl⟩) hP hD hS hA (fun r_12 u_12 H locs p_12 hP hD hS => ?_)
                  obtain rfl : r_12 = (-2000000002) := p_12
                  obtain ⟨hP, hD⟩ := kp_sub (ws' := [(h, .inr (4, [.ref sa, .ref pa, .int (nI p), .ref er, .ref na, .long (e 5), .long (e 6), .long (e 7), .long hs])), (sa, .inl (cI, 71, .inl s)), (pa, .inl (cI, 284, .inl past)), (er, .inl (cI, 3, .inl (upd err 0 (err 0 + 1)))), (na, .inl (cJ, 5, .inr (.inl e)))]) (ws := [(h, .inr (4, [.ref sa, .ref pa, .int (nI p), .ref er, .ref na, .long (e 5), .long (e 6), .long (e 7), .long hs])), (er, .inl (cI, 3, .inl (upd err 0 (err 0 + 1)))), (sa, .inl (cI, 71, .inl s)), (pa, .inl (cI, 284, .inl past)), (na, .inl (cJ, 5, .inr (.inl e)))]) hP hD [0, 2, 3, 1, 4] (by decide) rfl
                  have hP : va_P D vwCl ([(h, .inr (4, [.ref sa, .ref pa, .int (nI p), .ref er, .ref na, .long (e 5), .long (e 6), .long (e 7), .long hs])), (sa, .inl (cI, 71, .inl s)), (pa, .inl (cI, 284, .inl past)), (er, .inl (cI, 3, .inl (upd err 0 (err 0 + 1)))), (na, .inl (cJ, 5, .inr (.inl e)))]) H := hP
                  have hD : va_D A ([(h, .inr (4, [.ref sa, .ref pa, .int (nI p), .ref er, .ref na, .long (e 5), .long (e 6), .long (e 7), .long hs])), (sa, .inl (cI, 71, .inl s)), (pa, .inl (cI, 284, .inl past)), (er, .inl (cI, 3, .inl (upd err 0 (err 0 + 1)))), (na, .inl (cJ, 5, .inr (.inl e)))]) := hD
                  have hyf : yf_reset (p, s, past, err) x y z v = ((-2000000002), tk_yl (p, s, past, err) 0) := by rw [yf_reset, if_neg (fun z => p_7 z.2.2.2)]
                  exact W.iret (v := (-2000000002)) hx hb hr (fun zt ht hW => ⟨⟨(-2000000002), (tk_yl (p, s, past, err) 0, e, hs), rfl, ⟨by rw [hyf], by rw [hyf]⟩, KB.of hAe (by rw [ht]; exact hP) hD⟩, hS.F ht⟩) hS.2.2 dX4_reset_49
          · have hP : va_P D vwCl ([(h, .inr (4, [.ref sa, .ref pa, .int (nI p), .ref er, .ref na, .long (e 5), .long (e 6), .long (e 7), .long hs])), (sa, .inl (cI, 71, .inl s)), (pa, .inl (cI, 284, .inl past)), (er, .inl (cI, 3, .inl err)), (na, .inl (cJ, 5, .inr (.inl e)))]) H := hP
            have hD : va_D A ([(h, .inr (4, [.ref sa, .ref pa, .int (nI p), .ref er, .ref na, .long (e 5), .long (e 6), .long (e 7), .long hs])), (sa, .inl (cI, 71, .inl s)), (pa, .inl (cI, 284, .inl past)), (er, .inl (cI, 3, .inl err)), (na, .inl (cJ, 5, .inr (.inl e)))]) := hD
            refine lv_if_eq (tgt := 43) hx hb dX4_reset_29 (by decide) (fun c_13 => ?_) (fun c_13 => ?_)
            · skip
              refine lv_aload_n hx hb dX4_reset_43 rfl (lv_at hl 0 rfl) ?_
              refine lv_ldc (v := -2000000002) hx hb hown (hm 5 (.constant RX4 26 (-2000000002)) rfl) dX4_reset_44 ?_
              obtain ⟨hP, hD⟩ := kp_sub (ws' := [(h, .inr (4, [.ref sa, .ref pa, .int (nI p), .ref er, .ref na, .long (e 5), .long (e 6), .long (e 7), .long hs])), (er, .inl (cI, 3, .inl err)), (sa, .inl (cI, 71, .inl s)), (pa, .inl (cI, 284, .inl past)), (na, .inl (cJ, 5, .inr (.inl e)))]) hP hD [0, 3, 1, 2, 4] (by decide) rfl
              refine kc_i (wc := [(h, .inr (4, [.ref sa, .ref pa, .int (nI p), .ref er, .ref na, .long (e 5), .long (e 6), .long (e 7), .long hs])), (er, .inl (cI, 3, .inl err))]) (wr := [(sa, .inl (cI, 71, .inl s)), (pa, .inl (cI, 284, .inl past)), (na, .inl (cJ, 5, .inr (.inl e)))]) (va_runV (As := [.int (-2000000002)]) (rest := []) ⟨hx, hb, hml, hown, hts⟩ (k_X4_fail l D cI cM cJ _ h sa pa er na (nI p) (e 5) (e 6) (e 7) hs err (-2000000002) 0 (by decide) (by decide)) (cwV 1 hts gX4_reset_X4_fail rfl rfl rfl (by decide +kernel) ⟨Nat.le_of_ble_eq_true rfl, Nat.le_of_ble_eq_true rfl⟩) (kp_preV (q := (RX4, TX4, 9)) (wc := [(h, .inr (4, [.ref sa, .ref pa, .int (nI p), .ref er, .ref na, .long (e 5), .long (e 6), .long (e 7), .long hs])), (er, .inl (cI, 3, .inl err))]) (wr := [(sa, .inl (cI, 71, .inl s)), (pa, .inl (cI, 284, .inl past)), (na, .inl (cJ, 5, .inr (.inl e)))]) hN hK hP hD 0 rfl rfl) rfl rfl hl.1 rfl (lv_room (Nat.le_of_ble_eq_true rfl)) dX4_reset_46 ⟨Nat.le_of_ble_eq_true rfl, Nat.le_of_ble_eq_true rfl⟩) hP hD hS hA (fun r_14 u_14 H locs p_14 hP hD hS => ?_)
              obtain rfl : r_14 = (-2000000002) := p_14
              obtain ⟨hP, hD⟩ := kp_sub (ws' := [(h, .inr (4, [.ref sa, .ref pa, .int (nI p), .ref er, .ref na, .long (e 5), .long (e 6), .long (e 7), .long hs])), (sa, .inl (cI, 71, .inl s)), (pa, .inl (cI, 284, .inl past)), (er, .inl (cI, 3, .inl (upd err 0 (err 0 + 1)))), (na, .inl (cJ, 5, .inr (.inl e)))]) (ws := [(h, .inr (4, [.ref sa, .ref pa, .int (nI p), .ref er, .ref na, .long (e 5), .long (e 6), .long (e 7), .long hs])), (er, .inl (cI, 3, .inl (upd err 0 (err 0 + 1)))), (sa, .inl (cI, 71, .inl s)), (pa, .inl (cI, 284, .inl past)), (na, .inl (cJ, 5, .inr (.inl e)))]) hP hD [0, 2, 3, 1, 4] (by decide) rfl
              have hP : va_P D vwCl ([(h, .inr (4, [.ref sa, .ref pa, .int (nI p), .ref er, .ref na, .long (e 5), .long (e 6), .long (e 7), .long hs])), (sa, .inl (cI, 71, .inl s)), (pa, .inl (cI, 284, .inl past)), (er, .inl (cI, 3, .inl (upd err 0 (err 0 + 1)))), (na, .inl (cJ, 5, .inr (.inl e)))]) H := hP
              have hD : va_D A ([(h, .inr (4, [.ref sa, .ref pa, .int (nI p), .ref er, .ref na, .long (e 5), .long (e 6), .long (e 7), .long hs])), (sa, .inl (cI, 71, .inl s)), (pa, .inl (cI, 284, .inl past)), (er, .inl (cI, 3, .inl (upd err 0 (err 0 + 1)))), (na, .inl (cJ, 5, .inr (.inl e)))]) := hD
              have hyf : yf_reset (p, s, past, err) x y z v = ((-2000000002), tk_yl (p, s, past, err) 0) := by rw [yf_reset, if_neg (fun z => p_5 z.2.2.1)]
              exact W.iret (v := (-2000000002)) hx hb hr (fun zt ht hW => ⟨⟨(-2000000002), (tk_yl (p, s, past, err) 0, e, hs), rfl, ⟨by rw [hyf], by rw [hyf]⟩, KB.of hAe (by rw [ht]; exact hP) hD⟩, hS.F ht⟩) hS.2.2 dX4_reset_49
            · exact absurd c_13 (by decide)
      · have hP : va_P D vwCl ([(h, .inr (4, [.ref sa, .ref pa, .int (nI p), .ref er, .ref na, .long (e 5), .long (e 6), .long (e 7), .long hs])), (sa, .inl (cI, 71, .inl s)), (pa, .inl (cI, 284, .inl past)), (er, .inl (cI, 3, .inl err)), (na, .inl (cJ, 5, .inr (.inl e)))]) H := hP
        have hD : va_D A ([(h, .inr (4, [.ref sa, .ref pa, .int (nI p), .ref er, .ref na, .long (e 5), .long (e 6), .long (e 7), .long hs])), (sa, .inl (cI, 71, .inl s)), (pa, .inl (cI, 284, .inl past)), (er, .inl (cI, 3, .inl err)), (na, .inl (cJ, 5, .inr (.inl e)))]) := hD
        refine lv_if_eq (tgt := 43) hx hb dX4_reset_19 (by decide) (fun c_15 => ?_) (fun c_15 => ?_)
        · skip
          refine lv_aload_n hx hb dX4_reset_43 rfl (lv_at hl 0 rfl) ?_
          refine lv_ldc (v := -2000000002) hx hb hown (hm 5 (.constant RX4 26 (-2000000002)) rfl) dX4_reset_44 ?_
          obtain ⟨hP, hD⟩ := kp_sub (ws' := [(h, .inr (4, [.ref sa, .ref pa, .int (nI p), .ref er, .ref na, .long (e 5), .long (e 6), .long (e 7), .long hs])), (er, .inl (cI, 3, .inl err)), (sa, .inl (cI, 71, .inl s)), (pa, .inl (cI, 284, .inl past)), (na, .inl (cJ, 5, .inr (.inl e)))]) hP hD [0, 3, 1, 2, 4] (by decide) rfl
          refine kc_i (wc := [(h, .inr (4, [.ref sa, .ref pa, .int (nI p), .ref er, .ref na, .long (e 5), .long (e 6), .long (e 7), .long hs])), (er, .inl (cI, 3, .inl err))]) (wr := [(sa, .inl (cI, 71, .inl s)), (pa, .inl (cI, 284, .inl past)), (na, .inl (cJ, 5, .inr (.inl e)))]) (va_runV (As := [.int (-2000000002)]) (rest := []) ⟨hx, hb, hml, hown, hts⟩ (k_X4_fail l D cI cM cJ _ h sa pa er na (nI p) (e 5) (e 6) (e 7) hs err (-2000000002) 0 (by decide) (by decide)) (cwV 1 hts gX4_reset_X4_fail rfl rfl rfl (by decide +kernel) ⟨Nat.le_of_ble_eq_true rfl, Nat.le_of_ble_eq_true rfl⟩) (kp_preV (q := (RX4, TX4, 9)) (wc := [(h, .inr (4, [.ref sa, .ref pa, .int (nI p), .ref er, .ref na, .long (e 5), .long (e 6), .long (e 7), .long hs])), (er, .inl (cI, 3, .inl err))]) (wr := [(sa, .inl (cI, 71, .inl s)), (pa, .inl (cI, 284, .inl past)), (na, .inl (cJ, 5, .inr (.inl e)))]) hN hK hP hD 0 rfl rfl) rfl rfl hl.1 rfl (lv_room (Nat.le_of_ble_eq_true rfl)) dX4_reset_46 ⟨Nat.le_of_ble_eq_true rfl, Nat.le_of_ble_eq_true rfl⟩) hP hD hS hA (fun r_16 u_16 H locs p_16 hP hD hS => ?_)
          obtain rfl : r_16 = (-2000000002) := p_16
          obtain ⟨hP, hD⟩ := kp_sub (ws' := [(h, .inr (4, [.ref sa, .ref pa, .int (nI p), .ref er, .ref na, .long (e 5), .long (e 6), .long (e 7), .long hs])), (sa, .inl (cI, 71, .inl s)), (pa, .inl (cI, 284, .inl past)), (er, .inl (cI, 3, .inl (upd err 0 (err 0 + 1)))), (na, .inl (cJ, 5, .inr (.inl e)))]) (ws := [(h, .inr (4, [.ref sa, .ref pa, .int (nI p), .ref er, .ref na, .long (e 5), .long (e 6), .long (e 7), .long hs])), (er, .inl (cI, 3, .inl (upd err 0 (err 0 + 1)))), (sa, .inl (cI, 71, .inl s)), (pa, .inl (cI, 284, .inl past)), (na, .inl (cJ, 5, .inr (.inl e)))]) hP hD [0, 2, 3, 1, 4] (by decide) rfl
          have hP : va_P D vwCl ([(h, .inr (4, [.ref sa, .ref pa, .int (nI p), .ref er, .ref na, .long (e 5), .long (e 6), .long (e 7), .long hs])), (sa, .inl (cI, 71, .inl s)), (pa, .inl (cI, 284, .inl past)), (er, .inl (cI, 3, .inl (upd err 0 (err 0 + 1)))), (na, .inl (cJ, 5, .inr (.inl e)))]) H := hP
          have hD : va_D A ([(h, .inr (4, [.ref sa, .ref pa, .int (nI p), .ref er, .ref na, .long (e 5), .long (e 6), .long (e 7), .long hs])), (sa, .inl (cI, 71, .inl s)), (pa, .inl (cI, 284, .inl past)), (er, .inl (cI, 3, .inl (upd err 0 (err 0 + 1)))), (na, .inl (cJ, 5, .inr (.inl e)))]) := hD
          have hyf : yf_reset (p, s, past, err) x y z v = ((-2000000002), tk_yl (p, s, past, err) 0) := by rw [yf_reset, if_neg (fun z => p_3 z.2.1)]
          exact W.iret (v := (-2000000002)) hx hb hr (fun zt ht hW => ⟨⟨(-2000000002), (tk_yl (p, s, past, err) 0, e, hs), rfl, ⟨by rw [hyf], by rw [hyf]⟩, KB.of hAe (by rw [ht]; exact hP) hD⟩, hS.F ht⟩) hS.2.2 dX4_reset_49
        · exact absurd c_15 (by decide)
  · have hP : va_P D vwCl ([(h, .inr (4, [.ref sa, .ref pa, .int (nI p), .ref er, .ref na, .long (e 5), .long (e 6), .long (e 7), .long hs])), (sa, .inl (cI, 71, .inl s)), (pa, .inl (cI, 284, .inl past)), (er, .inl (cI, 3, .inl err)), (na, .inl (cJ, 5, .inr (.inl e)))]) H := hP
    have hD : va_D A ([(h, .inr (4, [.ref sa, .ref pa, .int (nI p), .ref er, .ref na, .long (e 5), .long (e 6), .long (e 7), .long hs])), (sa, .inl (cI, 71, .inl s)), (pa, .inl (cI, 284, .inl past)), (er, .inl (cI, 3, .inl err)), (na, .inl (cJ, 5, .inr (.inl e)))]) := hD
    refine lv_if_eq (tgt := 43) hx hb dX4_reset_8 (by decide) (fun c_17 => ?_) (fun c_17 => ?_)
    · skip
      refine lv_aload_n hx hb dX4_reset_43 rfl (lv_at hl 0 rfl) ?_
      refine lv_ldc (v := -2000000002) hx hb hown (hm 5 (.constant RX4 26 (-2000000002)) rfl) dX4_reset_44 ?_
      obtain ⟨hP, hD⟩ := kp_sub (ws' := [(h, .inr (4, [.ref sa, .ref pa, .int (nI p), .ref er, .ref na, .long (e 5), .long (e 6), .long (e 7), .long hs])), (er, .inl (cI, 3, .inl err)), (sa, .inl (cI, 71, .inl s)), (pa, .inl (cI, 284, .inl past)), (na, .inl (cJ, 5, .inr (.inl e)))]) hP hD [0, 3, 1, 2, 4] (by decide) rfl
      refine kc_i (wc := [(h, .inr (4, [.ref sa, .ref pa, .int (nI p), .ref er, .ref na, .long (e 5), .long (e 6), .long (e 7), .long hs])), (er, .inl (cI, 3, .inl err))]) (wr := [(sa, .inl (cI, 71, .inl s)), (pa, .inl (cI, 284, .inl past)), (na, .inl (cJ, 5, .inr (.inl e)))]) (va_runV (As := [.int (-2000000002)]) (rest := []) ⟨hx, hb, hml, hown, hts⟩ (k_X4_fail l D cI cM cJ _ h sa pa er na (nI p) (e 5) (e 6) (e 7) hs err (-2000000002) 0 (by decide) (by decide)) (cwV 1 hts gX4_reset_X4_fail rfl rfl rfl (by decide +kernel) ⟨Nat.le_of_ble_eq_true rfl, Nat.le_of_ble_eq_true rfl⟩) (kp_preV (q := (RX4, TX4, 9)) (wc := [(h, .inr (4, [.ref sa, .ref pa, .int (nI p), .ref er, .ref na, .long (e 5), .long (e 6), .long (e 7), .long hs])), (er, .inl (cI, 3, .inl err))]) (wr := [(sa, .inl (cI, 71, .inl s)), (pa, .inl (cI, 284, .inl past)), (na, .inl (cJ, 5, .inr (.inl e)))]) hN hK hP hD 0 rfl rfl) rfl rfl hl.1 rfl (lv_room (Nat.le_of_ble_eq_true rfl)) dX4_reset_46 ⟨Nat.le_of_ble_eq_true rfl, Nat.le_of_ble_eq_true rfl⟩) hP hD hS hA (fun r_18 u_18 H locs p_18 hP hD hS => ?_)
      obtain rfl : r_18 = (-2000000002) := p_18
      obtain ⟨hP, hD⟩ := kp_sub (ws' := [(h, .inr (4, [.ref sa, .ref pa, .int (nI p), .ref er, .ref na, .long (e 5), .long (e 6), .long (e 7), .long hs])), (sa, .inl (cI, 71, .inl s)), (pa, .inl (cI, 284, .inl past)), (er, .inl (cI, 3, .inl (upd err 0 (err 0 + 1)))), (na, .inl (cJ, 5, .inr (.inl e)))]) (ws := [(h, .inr (4, [.ref sa, .ref pa, .int (nI p), .ref er, .ref na, .long (e 5), .long (e 6), .long (e 7), .long hs])), (er, .inl (cI, 3, .inl (upd err 0 (err 0 + 1)))), (sa, .inl (cI, 71, .inl s)), (pa, .inl (cI, 284, .inl past)), (na, .inl (cJ, 5, .inr (.inl e)))]) hP hD [0, 2, 3, 1, 4] (by decide) rfl
      have hP : va_P D vwCl ([(h, .inr (4, [.ref sa, .ref pa, .int (nI p), .ref er, .ref na, .long (e 5), .long (e 6), .long (e 7), .long hs])), (sa, .inl (cI, 71, .inl s)), (pa, .inl (cI, 284, .inl past)), (er, .inl (cI, 3, .inl (upd err 0 (err 0 + 1)))), (na, .inl (cJ, 5, .inr (.inl e)))]) H := hP
      have hD : va_D A ([(h, .inr (4, [.ref sa, .ref pa, .int (nI p), .ref er, .ref na, .long (e 5), .long (e 6), .long (e 7), .long hs])), (sa, .inl (cI, 71, .inl s)), (pa, .inl (cI, 284, .inl past)), (er, .inl (cI, 3, .inl (upd err 0 (err 0 + 1)))), (na, .inl (cJ, 5, .inr (.inl e)))]) := hD
      have hyf : yf_reset (p, s, past, err) x y z v = ((-2000000002), tk_yl (p, s, past, err) 0) := by rw [yf_reset, if_neg (fun z => p_1 z.1)]
      exact W.iret (v := (-2000000002)) hx hb hr (fun zt ht hW => ⟨⟨(-2000000002), (tk_yl (p, s, past, err) 0, e, hs), rfl, ⟨by rw [hyf], by rw [hyf]⟩, KB.of hAe (by rw [ht]; exact hP) hD⟩, hS.F ht⟩) hS.2.2 dX4_reset_49
    · exact absurd c_17 (by decide)
