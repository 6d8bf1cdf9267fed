def tk_e0 : Nat → Int64 := fun k => match k with
  | 0 => 0
  | 1 => 0
  | 2 => 4096
  | 3 => 0
  | 4 => 4096
  | _ => -2000000001

theorem izX0_init_0 : ∀ w ∈ wsX00, w ∈ wsX0_init := fun _ h => List.mem_cons_of_mem _ (List.mem_append_right _ h)
set_option maxHeartbeats 4000000 in
set_option maxRecDepth 100000 in
/-- Estimate() -/
theorem k_X0_init (l : Launch) (D : va_G) (cI cM cJ : ClassId) (sz : Nat) (h0 : Nat) (e : Nat → Int64) : Met l yX0_init wsX0_init ({ frames := 1, cells := 0, slots := 0, locals := 12 }) (va_Pc [.ref h0] (KP D (tk_T cI cM cJ) ([(h0, .inr (0, tk_ev e))]) sz)) (va_Qv (fun (u : Unit) => True) (fun u zt => KB D ([(h0, .inr (0, tk_ev e))]) ([(h0, .inr (0, tk_ev tk_e0))]) sz zt) (va_A ([(h0, .inr (0, tk_ev e))]) sz)) 0 0 (va_A ([(h0, .inr (0, tk_ev e))]) sz) := by
  refine Met.ofW (cc := cX0_init) (maxL := 1) (ret := none) (by decide) rfl ?_
  intro zp ze zs zm zargs zbelow zmeth zc zs1 B hml hv
  obtain ⟨rfl, hsz, hP, hK, hD0, hN⟩ := hv
  have hx := B.exec
  have hb := B.bytes
  have hr := B.returns
  have hts := atoms_spec (ws := wsX0_init) B.pre
  have hm : ∀ (i : Nat) (w : Cond), wsX0_init[i]? = some w → w.before _ zs = true := fun i w h => hts w (List.mem_of_getElem? h)
  have hown : zs.vm.findClass RX0 = some zm.cls := findClass_of_methodNamed B.named
  have hlocks := B.notSynchronized
  have hin : zmeth.name = "<init>" := (name_of_methodNamed B.named B.method).1
  subst hsz
  have hD := hD0.self (sz := zs.heap.size)
  generalize hAe : va_A ([(h0, .inr (0, tk_ev e))]) zs.heap.size = A at hD ⊢
  have hA : ∀ q : Nat, zs.heap.size ≤ q → A q := fun q h => by rw [← hAe]; exact Or.inr h
  have hS : va_S A zs.heap zs.heap [] := va_S.rf
  have hP : va_P D vwCl ([(h0, .inr (0, tk_ev e))]) zs.heap := hP
  have hl := lv_entry ([.ref h0]) (n := 1) (Nat.le_of_ble_eq_true rfl)
  rw [lg_entry_eq]
  generalize (lg_sl ([.ref h0]) ++ List.replicate (1 - (lg_sl ([.ref h0])).length) Slot.unset).toArray = ls at hl ⊢
  have hl : lv_has ls 1 [(0, .ref h0)] := hl
  refine lv_aload_n hx hb dX0_init_0 rfl (lv_at hl 0 rfl) ?_
  refine W.objInit hx hb hown (hm 1 (.methodLink RX0 3 objectInit) rfl) (hm 2 (.instanceMethod objectInit) rfl) (hm 3 (.code objectInit ⟨#[0xb1]⟩ 1 none) rfl) rfl (by rw [hml]; exact hl.1) rfl dX0_init_1 (Nat.le_of_ble_eq_true rfl) (Nat.le_of_ble_eq_true rfl) ?_
  refine W.eq (g2 := F0 zm 4 ls []) rfl ?_
  refine lv_aload_n hx hb dX0_init_4 rfl (lv_at hl 0 rfl) ?_
  refine lv_lconst (v := 0) hx hb dX0_init_5 (by decide) ?_
  refine va_put (D := D) (ci := 0) (v := .long 0) (ty := .long) (C := RX0) (T := TX0) (N := 8) hx hb hts izX0_init_0 tyX0 tyX0_ok nmX0 hown hK hP hD hS 0 rfl rfl 0 (by decide) (hm 4 (.fieldLink RX0 9 "TankFilter$Estimate" "level" "J") rfl) (fun _ h9 => h9) rfl (by decide +kernel) rfl rfl (Nat.le_of_ble_eq_true rfl) dX0_init_6 (fun H locs hP hD hS => ?_)
  have hP : va_P D vwCl ([(h0, .inr (0, [.long 0, .long (e 1), .long (e 2), .long (e 3), .long (e 4), .long (e 5), .long (e 6), .long (e 7)]))]) H := hP
  have hD : va_D A ([(h0, .inr (0, [.long 0, .long (e 1), .long (e 2), .long (e 3), .long (e 4), .long (e 5), .long (e 6), .long (e 7)]))]) := hD
  refine lv_aload_n hx hb dX0_init_9 rfl (lv_at hl 0 rfl) ?_
  refine lv_lconst (v := 0) hx hb dX0_init_10 (by decide) ?_
  refine va_put (D := D) (ci := 0) (v := .long 0) (ty := .long) (C := RX0) (T := TX0) (N := 8) hx hb hts izX0_init_0 tyX0 tyX0_ok nmX0 hown hK hP hD hS 0 rfl rfl 1 (by decide) (hm 5 (.fieldLink RX0 15 "TankFilter$Estimate" "flow" "J") rfl) (fun _ h9 => h9) rfl (by decide +kernel) rfl rfl (Nat.le_of_ble_eq_true rfl) dX0_init_11 (fun H locs hP hD hS => ?_)
  have hP : va_P D vwCl ([(h0, .inr (0, [.long 0, .long 0, .long (e 2), .long (e 3), .long (e 4), .long (e 5), .long (e 6), .long (e 7)]))]) H := hP
  have hD : va_D A ([(h0, .inr (0, [.long 0, .long 0, .long (e 2), .long (e 3), .long (e 4), .long (e 5), .long (e 6), .long (e 7)]))]) := hD
  refine lv_aload_n hx hb dX0_init_14 rfl (lv_at hl 0 rfl) ?_
  refine lv_ldc2 (v := 4096) hx hb hown (hm 6 (.constantLong RX0 18 (4096)) rfl) dX0_init_15 ?_
  refine va_put (D := D) (ci := 0) (v := .long 4096) (ty := .long) (C := RX0) (T := TX0) (N := 8) hx hb hts izX0_init_0 tyX0 tyX0_ok nmX0 hown hK hP hD hS 0 rfl rfl 2 (by decide) (hm 7 (.fieldLink RX0 20 "TankFilter$Estimate" "levelVariance" "J") rfl) (fun _ h9 => h9) rfl (by decide +kernel) rfl rfl (Nat.le_of_ble_eq_true rfl) dX0_init_18 (fun H locs hP hD hS => ?_)
  have hP : va_P D vwCl ([(h0, .inr (0, [.long 0, .long 0, .long 4096, .long (e 3), .long (e 4), .long (e 5), .long (e 6), .long (e 7)]))]) H := hP
  have hD : va_D A ([(h0, .inr (0, [.long 0, .long 0, .long 4096, .long (e 3), .long (e 4), .long (e 5), .long (e 6), .long (e 7)]))]) := hD
  refine lv_aload_n hx hb dX0_init_21 rfl (lv_at hl 0 rfl) ?_
  refine lv_lconst (v := 0) hx hb dX0_init_22 (by decide) ?_
  refine va_put (D := D) (ci := 0) (v := .long 0) (ty := .long) (C := RX0) (T := TX0) (N := 8) hx hb hts izX0_init_0 tyX0 tyX0_ok nmX0 hown hK hP hD hS 0 rfl rfl 3 (by decide) (hm 8 (.fieldLink RX0 23 "TankFilter$Estimate" "covariance" "J") rfl) (fun _ h9 => h9) rfl (by decide +kernel) rfl rfl (Nat.le_of_ble_eq_true rfl) dX0_init_23 (fun H locs hP hD hS => ?_)
  have hP : va_P D vwCl ([(h0, .inr (0, [.long 0, .long 0, .long 4096, .long 0, .long (e 4), .long (e 5), .long (e 6), .long (e 7)]))]) H := hP
  have hD : va_D A ([(h0, .inr (0, [.long 0, .long 0, .long 4096, .long 0, .long (e 4), .long (e 5), .long (e 6), .long (e 7)]))]) := hD
  refine lv_aload_n hx hb dX0_init_26 rfl (lv_at hl 0 rfl) ?_
  refine lv_ldc2 (v := 4096) hx hb hown (hm 6 (.constantLong RX0 18 (4096)) rfl) dX0_init_27 ?_
  refine va_put (D := D) (ci := 0) (v := .long 4096) (ty := .long) (C := RX0) (T := TX0) (N := 8) hx hb hts izX0_init_0 tyX0 tyX0_ok nmX0 hown hK hP hD hS 0 rfl rfl 4 (by decide) (hm 9 (.fieldLink RX0 26 "TankFilter$Estimate" "flowVariance" "J") rfl) (fun _ h9 => h9) rfl (by decide +kernel) rfl rfl (Nat.le_of_ble_eq_true rfl) dX0_init_30 (fun H locs hP hD hS => ?_)
  have hP : va_P D vwCl ([(h0, .inr (0, [.long 0, .long 0, .long 4096, .long 0, .long 4096, .long (e 5), .long (e 6), .long (e 7)]))]) H := hP
  have hD : va_D A ([(h0, .inr (0, [.long 0, .long 0, .long 4096, .long 0, .long 4096, .long (e 5), .long (e 6), .long (e 7)]))]) := hD
  refine lv_aload_n hx hb dX0_init_33 rfl (lv_at hl 0 rfl) ?_
  refine lv_ldc2 (v := -2000000001) hx hb hown (hm 10 (.constantLong RX0 29 (-2000000001)) rfl) dX0_init_34 ?_
  refine va_put (D := D) (ci := 0) (v := .long (-2000000001)) (ty := .long) (C := RX0) (T := TX0) (N := 8) hx hb hts izX0_init_0 tyX0 tyX0_ok nmX0 hown hK hP hD hS 0 rfl rfl 5 (by decide) (hm 11 (.fieldLink RX0 31 "TankFilter$Estimate" "innovation" "J") rfl) (fun _ h9 => h9) rfl (by decide +kernel) rfl rfl (Nat.le_of_ble_eq_true rfl) dX0_init_37 (fun H locs hP hD hS => ?_)
  have hP : va_P D vwCl ([(h0, .inr (0, [.long 0, .long 0, .long 4096, .long 0, .long 4096, .long (-2000000001), .long (e 6), .long (e 7)]))]) H := hP
  have hD : va_D A ([(h0, .inr (0, [.long 0, .long 0, .long 4096, .long 0, .long 4096, .long (-2000000001), .long (e 6), .long (e 7)]))]) := hD
  refine lv_aload_n hx hb dX0_init_40 rfl (lv_at hl 0 rfl) ?_
  refine lv_ldc2 (v := -2000000001) hx hb hown (hm 10 (.constantLong RX0 29 (-2000000001)) rfl) dX0_init_41 ?_
  refine va_put (D := D) (ci := 0) (v := .long (-2000000001)) (ty := .long) (C := RX0) (T := TX0) (N := 8) hx hb hts izX0_init_0 tyX0 tyX0_ok nmX0 hown hK hP hD hS 0 rfl rfl 6 (by decide) (hm 12 (.fieldLink RX0 34 "TankFilter$Estimate" "levelGain" "J") rfl) (fun _ h9 => h9) rfl (by decide +kernel) rfl rfl (Nat.le_of_ble_eq_true rfl) dX0_init_44 (fun H locs hP hD hS => ?_)
  have hP : va_P D vwCl ([(h0, .inr (0, [.long 0, .long 0, .long 4096, .long 0, .long 4096, .long (-2000000001), .long (-2000000001), .long (e 7)]))]) H := hP
  have hD : va_D A ([(h0, .inr (0, [.long 0, .long 0, .long 4096, .long 0, .long 4096, .long (-2000000001), .long (-2000000001), .long (e 7)]))]) := hD
  refine lv_aload_n hx hb dX0_init_47 rfl (lv_at hl 0 rfl) ?_
  refine lv_ldc2 (v := -2000000001) hx hb hown (hm 10 (.constantLong RX0 29 (-2000000001)) rfl) dX0_init_48 ?_
  refine va_put (D := D) (ci := 0) (v := .long (-2000000001)) (ty := .long) (C := RX0) (T := TX0) (N := 8) hx hb hts izX0_init_0 tyX0 tyX0_ok nmX0 hown hK hP hD hS 0 rfl rfl 7 (by decide) (hm 13 (.fieldLink RX0 37 "TankFilter$Estimate" "flowGain" "J") rfl) (fun _ h9 => h9) rfl (by decide +kernel) rfl rfl (Nat.le_of_ble_eq_true rfl) dX0_init_51 (fun H locs hP hD hS => ?_)
  have hP : va_P D vwCl ([(h0, .inr (0, [.long 0, .long 0, .long 4096, .long 0, .long 4096, .long (-2000000001), .long (-2000000001), .long (-2000000001)]))]) H := hP
  have hD : va_D A ([(h0, .inr (0, [.long 0, .long 0, .long 4096, .long 0, .long 4096, .long (-2000000001), .long (-2000000001), .long (-2000000001)]))]) := hD
  exact W.vret hx hb hr (fun zt ht hW => ⟨⟨(), rfl, trivial, KB.of hAe (by rw [ht]; exact hP) hD⟩, hS.F ht⟩) hS.2.2 dX0_init_54

theorem izX1_init_1 : ∀ w ∈ wsX10, w ∈ wsX1_init := fun _ h => List.mem_cons_of_mem _ (List.mem_append_right _ h)
set_option maxHeartbeats 4000000 in
set_option maxRecDepth 100000 in
/-- History() -/
theorem k_X1_init (l : Launch) (D : va_G) (cI cM cJ : ClassId) (sz : Nat) (h0 : Nat) : Met l yX1_init wsX1_init ({ frames := 1, cells := 2, slots := 48, locals := 12 }) (va_Pc [.ref h0] (KP D (tk_T cI cM cJ) ([(h0, .inr (1, [.null, .null, .int 0]))]) sz)) (va_Qv (fun (u : Nat × Nat) => True) (fun u zt => KB D ([(h0, .inr (1, [.null, .null, .int 0]))]) ([(h0, .inr (1, [.ref u.1, .ref u.2, .int 0])), (u.1, .inl (cI, 24, .inl (fun _ => 0))), (u.2, .inl (cI, 24, .inl (fun _ => 0)))]) sz zt) (va_A ([(h0, .inr (1, [.null, .null, .int 0]))]) sz)) 2 48 (va_A ([(h0, .inr (1, [.null, .null, .int 0]))]) sz) := by
  refine Met.ofW (cc := cX1_init) (maxL := 1) (ret := none) (by decide) rfl ?_
  intro zp ze zs zm zargs zbelow zmeth zc zs1 B hml hv
  obtain ⟨rfl, hsz, hP, hK, hD0, hN⟩ := hv
  have hx := B.exec
  have hb := B.bytes
  have hr := B.returns
  have hts := atoms_spec (ws := wsX1_init) B.pre
  have hm : ∀ (i : Nat) (w : Cond), wsX1_init[i]? = some w → w.before _ zs = true := fun i w h => hts w (List.mem_of_getElem? h)
  have hown : zs.vm.findClass RX1 = some zm.cls := findClass_of_methodNamed B.named
  have hlocks := B.notSynchronized
  have hin : zmeth.name = "<init>" := (name_of_methodNamed B.named B.method).1
  subst hsz
  have hD := hD0.self (sz := zs.heap.size)
  generalize hAe : va_A ([(h0, .inr (1, [.null, .null, .int 0]))]) zs.heap.size = A at hD ⊢
  have hA : ∀ q : Nat, zs.heap.size ≤ q → A q := fun q h => by rw [← hAe]; exact Or.inr h
  have hS : va_S A zs.heap zs.heap [] := va_S.rf
  have hP : va_P D vwCl ([(h0, .inr (1, [.null, .null, .int 0]))]) zs.heap := hP
  have hl := lv_entry ([.ref h0]) (n := 1) (Nat.le_of_ble_eq_true rfl)
  rw [lg_entry_eq]
  generalize (lg_sl ([.ref h0]) ++ List.replicate (1 - (lg_sl ([.ref h0])).length) Slot.unset).toArray = ls at hl ⊢
  have hl : lv_has ls 1 [(0, .ref h0)] := hl
  refine lv_aload_n hx hb dX1_init_0 rfl (lv_at hl 0 rfl) ?_
  refine W.objInit hx hb hown (hm 1 (.methodLink RX1 3 objectInit) rfl) (hm 2 (.instanceMethod objectInit) rfl) (hm 3 (.code objectInit ⟨#[0xb1]⟩ 1 none) rfl) rfl (by rw [hml]; exact hl.1) rfl dX1_init_1 (Nat.le_of_ble_eq_true rfl) (Nat.le_of_ble_eq_true rfl) ?_
  refine W.eq (g2 := F0 zm 4 ls []) rfl ?_
  refine lv_aload_n hx hb dX1_init_4 rfl (lv_at hl 0 rfl) ?_
  refine lv_bipush (v := 24) hx hb dX1_init_5 (by decide) ?_
  refine ka_newI (N := 24) hx hb (hm 4 (.arrayClass .int) rfl) hK hP hD hS hA (by decide) (by decide) (by decide) (Nat.le_of_ble_eq_true rfl) (Nat.le_of_ble_eq_true rfl) dX1_init_7 (fun qa_1 H hP hD hS => ?_)
  have hP : va_P D vwCl ([(h0, .inr (1, [.null, .null, .int 0])), (qa_1, .inl (cI, 24, .inl (fun _ => 0)))]) H := hP
  have hD : va_D A ([(h0, .inr (1, [.null, .null, .int 0])), (qa_1, .inl (cI, 24, .inl (fun _ => 0)))]) := hD
  refine va_putF (D := D) (ci := 1) (v := .ref qa_1) (ty := .array .int) (C := RX1) (T := TX1) (N := 3) hx hb hts izX1_init_1 tyX1 tyX1_ok nmX1 hown hK hP hD hS 0 rfl rfl 0 (by decide) (hm 5 (.fieldLink RX1 9 "TankFilter$History" "sources" "[I") rfl) (fun _ h9 => h9) rfl hin rfl (by decide +kernel) rfl rfl (Nat.le_of_ble_eq_true rfl) dX1_init_9 (fun H locs hP hD hS => ?_)
  have hP : va_P D vwCl ([(h0, .inr (1, [.ref qa_1, .null, .int 0])), (qa_1, .inl (cI, 24, .inl (fun _ => 0)))]) H := hP
  have hD : va_D A ([(h0, .inr (1, [.ref qa_1, .null, .int 0])), (qa_1, .inl (cI, 24, .inl (fun _ => 0)))]) := hD
  refine lv_aload_n hx hb dX1_init_12 rfl (lv_at hl 0 rfl) ?_
  refine lv_bipush (v := 24) hx hb dX1_init_13 (by decide) ?_
  refine ka_newI (N := 24) hx hb (hm 4 (.arrayClass .int) rfl) hK hP hD hS hA (by decide) (by decide) (by decide) (Nat.le_of_ble_eq_true rfl) (Nat.le_of_ble_eq_true rfl) dX1_init_15 (fun qa_2 H hP hD hS => ?_)
  have hP : va_P D vwCl ([(h0, .inr (1, [.ref qa_1, .null, .int 0])), (qa_1, .inl (cI, 24, .inl (fun _ => 0))), (qa_2, .inl (cI, 24, .inl (fun _ => 0)))]) H := hP
  have hD : va_D A ([(h0, .inr (1, [.ref qa_1, .null, .int 0])), (qa_1, .inl (cI, 24, .inl (fun _ => 0))), (qa_2, .inl (cI, 24, .inl (fun _ => 0)))]) := hD
  refine va_putF (D := D) (ci := 1) (v := .ref qa_2) (ty := .array .int) (C := RX1) (T := TX1) (N := 3) hx hb hts izX1_init_1 tyX1 tyX1_ok nmX1 hown hK hP hD hS 0 rfl rfl 1 (by decide) (hm 6 (.fieldLink RX1 15 "TankFilter$History" "values" "[I") rfl) (fun _ h9 => h9) rfl hin rfl (by decide +kernel) rfl rfl (Nat.le_of_ble_eq_true rfl) dX1_init_17 (fun H locs hP hD hS => ?_)
  have hP : va_P D vwCl ([(h0, .inr (1, [.ref qa_1, .ref qa_2, .int 0])), (qa_1, .inl (cI, 24, .inl (fun _ => 0))), (qa_2, .inl (cI, 24, .inl (fun _ => 0)))]) H := hP
  have hD : va_D A ([(h0, .inr (1, [.ref qa_1, .ref qa_2, .int 0])), (qa_1, .inl (cI, 24, .inl (fun _ => 0))), (qa_2, .inl (cI, 24, .inl (fun _ => 0)))]) := hD
  refine lv_aload_n hx hb dX1_init_20 rfl (lv_at hl 0 rfl) ?_
  refine lv_iconst (v := 0) hx hb dX1_init_21 (by decide) ?_
  refine va_put (D := D) (ci := 1) (v := .int 0) (ty := .int) (C := RX1) (T := TX1) (N := 3) hx hb hts izX1_init_1 tyX1 tyX1_ok nmX1 hown hK hP hD hS 0 rfl rfl 2 (by decide) (hm 7 (.fieldLink RX1 18 "TankFilter$History" "size" "I") rfl) (fun _ h9 => h9) rfl (by decide +kernel) rfl rfl (Nat.le_of_ble_eq_true rfl) dX1_init_22 (fun H locs hP hD hS => ?_)
  have hP : va_P D vwCl ([(h0, .inr (1, [.ref qa_1, .ref qa_2, .int 0])), (qa_1, .inl (cI, 24, .inl (fun _ => 0))), (qa_2, .inl (cI, 24, .inl (fun _ => 0)))]) H := hP
  have hD : va_D A ([(h0, .inr (1, [.ref qa_1, .ref qa_2, .int 0])), (qa_1, .inl (cI, 24, .inl (fun _ => 0))), (qa_2, .inl (cI, 24, .inl (fun _ => 0)))]) := hD
  exact W.vret hx hb hr (fun zt ht hW => ⟨⟨(qa_1, qa_2), rfl, trivial, KB.of hAe (by rw [ht]; exact hP) hD⟩, hS.F ht⟩) hS.2.2 dX1_init_25

theorem izX2_init_0 : ∀ w ∈ wsX00, w ∈ wsX2_init := fun _ h => List.mem_cons_of_mem _ (List.mem_append_left _ (List.mem_append_left _ (List.mem_append_right _ h)))
theorem izX2_init_2 : ∀ w ∈ wsX20, w ∈ wsX2_init := fun _ h => List.mem_cons_of_mem _ (List.mem_append_left _ (List.mem_append_right _ h))
theorem izX2_init_1 : ∀ w ∈ wsX10, w ∈ wsX2_init := fun _ h => List.mem_cons_of_mem _ (List.mem_append_right _ h)
set_option maxHeartbeats 4000000 in
set_option maxRecDepth 100000 in
/-- Memory() -/
theorem k_X2_init (l : Launch) (D : va_G) (cI cM cJ : ClassId) (sz : Nat) (h0 : Nat) : Met l yX2_init wsX2_init ({ frames := 2, cells := 6, slots := 67, locals := 32 }) (va_Pc [.ref h0] (KP D (tk_T cI cM cJ) ([(h0, .inr (2, [.null, .int 0, .int 0, .int 0, .null, .null, .int 0, .int 0, .int 0, .null]))]) sz)) (va_Qv (fun (u : Nat → Nat) => u 0 = h0) (fun u zt => KB D ([(h0, .inr (2, [.null, .int 0, .int 0, .int 0, .null, .null, .int 0, .int 0, .int 0, .null]))]) ([(u 0, .inr (2, [.ref (u 1), .int 0, .int 64, .int 9, .ref (u 2), .ref (u 3), .int 0, .int 0, .int 0, .ref (u 4)])), (u 1, .inr (0, tk_ev tk_e0)), (u 2, .inl (cI, 4, .inl (fun _ => 0))), (u 3, .inl (cI, 4, .inl (fun _ => 4096))), (u 4, .inr (1, [.ref (u 5), .ref (u 6), .int (nI 0)])), (u 5, .inl (cI, 24, .inl (fun _ => 0))), (u 6, .inl (cI, 24, .inl (fun _ => 0)))]) sz zt) (va_A ([(h0, .inr (2, [.null, .int 0, .int 0, .int 0, .null, .null, .int 0, .int 0, .int 0, .null]))]) sz)) 6 67 (va_A ([(h0, .inr (2, [.null, .int 0, .int 0, .int 0, .null, .null, .int 0, .int 0, .int 0, .null]))]) sz) := by
  refine Met.ofW (cc := cX2_init) (maxL := 2) (ret := none) (by decide) rfl ?_
  intro zp ze zs zm zargs zbelow zmeth zc zs1 B hml hv
  obtain ⟨rfl, hsz, hP, hK, hD0, hN⟩ := hv
  have hx := B.exec
  have hb := B.bytes
  have hr := B.returns
  have hts := atoms_spec (ws := wsX2_init) B.pre
  have hm : ∀ (i : Nat) (w : Cond), wsX2_init[i]? = some w → w.before _ zs = true := fun i w h => hts w (List.mem_of_getElem? h)
  have hown : zs.vm.findClass RX2 = some zm.cls := findClass_of_methodNamed B.named
  have hlocks := B.notSynchronized
  have hin : zmeth.name = "<init>" := (name_of_methodNamed B.named B.method).1
  subst hsz
  have hD := hD0.self (sz := zs.heap.size)
  generalize hAe : va_A ([(h0, .inr (2, [.null, .int 0, .int 0, .int 0, .null, .null, .int 0, .int 0, .int 0, .null]))]) zs.heap.size = A at hD ⊢
  have hA : ∀ q : Nat, zs.heap.size ≤ q → A q := fun q h => by rw [← hAe]; exact Or.inr h
  have hS : va_S A zs.heap zs.heap [] := va_S.rf
  have hP : va_P D vwCl ([(h0, .inr (2, [.null, .int 0, .int 0, .int 0, .null, .null, .int 0, .int 0, .int 0, .null]))]) zs.heap := hP
  have hl := lv_entry ([.ref h0]) (n := 2) (Nat.le_of_ble_eq_true rfl)
  rw [lg_entry_eq]
  generalize (lg_sl ([.ref h0]) ++ List.replicate (2 - (lg_sl ([.ref h0])).length) Slot.unset).toArray = ls at hl ⊢
  have hl : lv_has ls 2 [(0, .ref h0)] := hl
  refine lv_aload_n hx hb dX2_init_0 rfl (lv_at hl 0 rfl) ?_
  refine W.objInit hx hb hown (hm 1 (.methodLink RX2 3 objectInit) rfl) (hm 2 (.instanceMethod objectInit) rfl) (hm 3 (.code objectInit ⟨#[0xb1]⟩ 1 none) rfl) rfl (by rw [hml]; exact hl.1) rfl dX2_init_1 (Nat.le_of_ble_eq_true rfl) (Nat.le_of_ble_eq_true rfl) ?_
  refine W.eq (g2 := F0 zm 4 ls []) rfl ?_
  refine lv_aload_n hx hb dX2_init_4 rfl (lv_at hl 0 rfl) ?_
  refine va_new (ci := 0) (fs := [.long 0, .long 0, .long 0, .long 0, .long 0, .long 0, .long 0, .long 0]) (C := RX0) (T := TX0) (N := 8) hx hb hts izX2_init_0 tyX0 tyX0_ok hown (hm 4 (.classLink RX2 9 RX0) rfl) (hm 5 (.instantiable RX0 8) rfl) (hm 6 (.initialized RX0) rfl) hK hP hD hS hA rfl (fun j hj => by rcases (show j = 0 ∨ j = 1 ∨ j = 2 ∨ j = 3 ∨ j = 4 ∨ j = 5 ∨ j = 6 ∨ j = 7 by omega) with rfl | rfl | rfl | rfl | rfl | rfl | rfl | rfl <;> rfl) (Nat.le_of_ble_eq_true rfl) (Nat.le_of_ble_eq_true rfl) dX2_init_5 (fun qn_1 H hP hD hS => ?_)
  have hP : va_P D vwCl ([(h0, .inr (2, [.null, .int 0, .int 0, .int 0, .null, .null, .int 0, .int 0, .int 0, .null])), (qn_1, .inr (0, [.long 0, .long 0, .long 0, .long 0, .long 0, .long 0, .long 0, .long 0]))]) H := hP
  have hD : va_D A ([(h0, .inr (2, [.null, .int 0, .int 0, .int 0, .null, .null, .int 0, .int 0, .int 0, .null])), (qn_1, .inr (0, [.long 0, .long 0, .long 0, .long 0, .long 0, .long 0, .long 0, .long 0]))]) := hD
  refine lv_dup hx hb dX2_init_8 rfl ?_
  obtain ⟨hP, hD⟩ := kp_sub (ws' := [(qn_1, .inr (0, tk_ev (fun _ => 0))), (h0, .inr (2, [.null, .int 0, .int 0, .int 0, .null, .null, .int 0, .int 0, .int 0, .null]))]) hP hD [1, 0] (by decide) rfl
  refine kc_v (wc := [(qn_1, .inr (0, tk_ev (fun _ => 0)))]) (wr := [(h0, .inr (2, [.null, .int 0, .int 0, .int 0, .null, .null, .int 0, .int 0, .int 0, .null]))]) (va_runIN (As := []) (rest := [.ref qn_1, .ref h0]) ⟨hx, hb, hml, hown, hts⟩ (k_X0_init l D cI cM cJ _ qn_1 (fun _ => 0)) ⟨va_cnB 0 hts gX2_init_X0_init_n11 rfl rfl rfl (hN.at 1 rfl) (hm 6 (.initialized RX0) rfl) (by decide +kernel) ⟨Nat.le_of_ble_eq_true rfl, Nat.le_of_ble_eq_true rfl⟩, rfl, (hm 21 (.instanceMethod yX0_init) rfl)⟩ (kp_preS (wc := [(qn_1, .inr (0, tk_ev (fun _ => 0)))]) (wr := [(h0, .inr (2, [.null, .int 0, .int 0, .int 0, .null, .null, .int 0, .int 0, .int 0, .null]))]) hN hK hP hD) rfl rfl hl.1 rfl (lv_room (Nat.le_of_ble_eq_true rfl)) dX2_init_9 ⟨Nat.le_of_ble_eq_true rfl, Nat.le_of_ble_eq_true rfl⟩) hP hD hS hA (fun u_2 H locs p_2 hP hD hS => ?_)
  obtain ⟨hP, hD⟩ := kp_sub (ws' := [(h0, .inr (2, [.null, .int 0, .int 0, .int 0, .null, .null, .int 0, .int 0, .int 0, .null])), (qn_1, .inr (0, tk_ev tk_e0))]) (ws := [(qn_1, .inr (0, tk_ev tk_e0)), (h0, .inr (2, [.null, .int 0, .int 0, .int 0, .null, .null, .int 0, .int 0, .int 0, .null]))]) hP hD [1, 0] (by decide) rfl
  have hP : va_P D vwCl ([(h0, .inr (2, [.null, .int 0, .int 0, .int 0, .null, .null, .int 0, .int 0, .int 0, .null])), (qn_1, .inr (0, tk_ev tk_e0))]) H := hP
  have hD : va_D A ([(h0, .inr (2, [.null, .int 0, .int 0, .int 0, .null, .null, .int 0, .int 0, .int 0, .null])), (qn_1, .inr (0, tk_ev tk_e0))]) := hD
  refine va_putF (D := D) (ci := 2) (v := .ref qn_1) (ty := .object "TankFilter$Estimate") (C := RX2) (T := TX2) (N := 10) hx hb hts izX2_init_2 tyX2 tyX2_ok nmX2 hown hK hP hD hS 0 rfl rfl 0 (by decide) (hm 7 (.fieldLink RX2 12 "TankFilter$Memory" "estimate" "LTankFilter$Estimate;") rfl) (fun _ h9 => h9) rfl hin rfl (by decide +kernel) rfl rfl (Nat.le_of_ble_eq_true rfl) dX2_init_12 (fun H locs hP hD hS => ?_)
  have hP : va_P D vwCl ([(h0, .inr (2, [.ref qn_1, .int 0, .int 0, .int 0, .null, .null, .int 0, .int 0, .int 0, .null])), (qn_1, .inr (0, tk_ev tk_e0))]) H := hP
  have hD : va_D A ([(h0, .inr (2, [.ref qn_1, .int 0, .int 0, .int 0, .null, .null, .int 0, .int 0, .int 0, .null])), (qn_1, .inr (0, tk_ev tk_e0))]) := hD
  refine lv_aload_n hx hb dX2_init_15 rfl (lv_at hl 0 rfl) ?_
  refine lv_iconst (v := 0) hx hb dX2_init_16 (by decide) ?_
  refine va_put (D := D) (ci := 2) (v := .int 0) (ty := .int) (C := RX2) (T := TX2) (N := 10) hx hb hts izX2_init_2 tyX2 tyX2_ok nmX2 hown hK hP hD hS 0 rfl rfl 1 (by decide) (hm 8 (.fieldLink RX2 18 "TankFilter$Memory" "levelNoise" "I") rfl) (fun _ h9 => h9) rfl (by decide +kernel) rfl rfl (Nat.le_of_ble_eq_true rfl) dX2_init_17 (fun H locs hP hD hS => ?_)
  have hP : va_P D vwCl ([(h0, .inr (2, [.ref qn_1, .int 0, .int 0, .int 0, .null, .null, .int 0, .int 0, .int 0, .null])), (qn_1, .inr (0, tk_ev tk_e0))]) H := hP
  have hD : va_D A ([(h0, .inr (2, [.ref qn_1, .int 0, .int 0, .int 0, .null, .null, .int 0, .int 0, .int 0, .null])), (qn_1, .inr (0, tk_ev tk_e0))]) := hD
  refine lv_aload_n hx hb dX2_init_20 rfl (lv_at hl 0 rfl) ?_
  refine lv_bipush (v := 64) hx hb dX2_init_21 (by decide) ?_
  refine va_put (D := D) (ci := 2) (v := .int 64) (ty := .int) (C := RX2) (T := TX2) (N := 10) hx hb hts izX2_init_2 tyX2 tyX2_ok nmX2 hown hK hP hD hS 0 rfl rfl 2 (by decide) (hm 9 (.fieldLink RX2 22 "TankFilter$Memory" "flowNoise" "I") rfl) (fun _ h9 => h9) rfl (by decide +kernel) rfl rfl (Nat.le_of_ble_eq_true rfl) dX2_init_23 (fun H locs hP hD hS => ?_)
  have hP : va_P D vwCl ([(h0, .inr (2, [.ref qn_1, .int 0, .int 64, .int 0, .null, .null, .int 0, .int 0, .int 0, .null])), (qn_1, .inr (0, tk_ev tk_e0))]) H := hP
  have hD : va_D A ([(h0, .inr (2, [.ref qn_1, .int 0, .int 64, .int 0, .null, .null, .int 0, .int 0, .int 0, .null])), (qn_1, .inr (0, tk_ev tk_e0))]) := hD
  refine lv_aload_n hx hb dX2_init_26 rfl (lv_at hl 0 rfl) ?_
  refine lv_bipush (v := 9) hx hb dX2_init_27 (by decide) ?_
  refine va_put (D := D) (ci := 2) (v := .int 9) (ty := .int) (C := RX2) (T := TX2) (N := 10) hx hb hts izX2_init_2 tyX2 tyX2_ok nmX2 hown hK hP hD hS 0 rfl rfl 3 (by decide) (hm 10 (.fieldLink RX2 25 "TankFilter$Memory" "gate" "I") rfl) (fun _ h9 => h9) rfl (by decide +kernel) rfl rfl (Nat.le_of_ble_eq_true rfl) dX2_init_29 (fun H locs hP hD hS => ?_)
  have hP : va_P D vwCl ([(h0, .inr (2, [.ref qn_1, .int 0, .int 64, .int 9, .null, .null, .int 0, .int 0, .int 0, .null])), (qn_1, .inr (0, tk_ev tk_e0))]) H := hP
  have hD : va_D A ([(h0, .inr (2, [.ref qn_1, .int 0, .int 64, .int 9, .null, .null, .int 0, .int 0, .int 0, .null])), (qn_1, .inr (0, tk_ev tk_e0))]) := hD
  refine lv_aload_n hx hb dX2_init_32 rfl (lv_at hl 0 rfl) ?_
  refine lv_iconst (v := 4) hx hb dX2_init_33 (by decide) ?_
  refine ka_newI (N := 4) hx hb (hm 11 (.arrayClass .int) rfl) hK hP hD hS hA (by decide) (by decide) (by decide) (Nat.le_of_ble_eq_true rfl) (Nat.le_of_ble_eq_true rfl) dX2_init_34 (fun qa_3 H hP hD hS => ?_)
  have hP : va_P D vwCl ([(h0, .inr (2, [.ref qn_1, .int 0, .int 64, .int 9, .null, .null, .int 0, .int 0, .int 0, .null])), (qn_1, .inr (0, tk_ev tk_e0)), (qa_3, .inl (cI, 4, .inl (fun _ => 0)))]) H := hP
  have hD : va_D A ([(h0, .inr (2, [.ref qn_1, .int 0, .int 64, .int 9, .null, .null, .int 0, .int 0, .int 0, .null])), (qn_1, .inr (0, tk_ev tk_e0)), (qa_3, .inl (cI, 4, .inl (fun _ => 0)))]) := hD
  refine va_putF (D := D) (ci := 2) (v := .ref qa_3) (ty := .array .int) (C := RX2) (T := TX2) (N := 10) hx hb hts izX2_init_2 tyX2 tyX2_ok nmX2 hown hK hP hD hS 0 rfl rfl 4 (by decide) (hm 12 (.fieldLink RX2 28 "TankFilter$Memory" "sensorKinds" "[I") rfl) (fun _ h9 => h9) rfl hin rfl (by decide +kernel) rfl rfl (Nat.le_of_ble_eq_true rfl) dX2_init_36 (fun H locs hP hD hS => ?_)
  have hP : va_P D vwCl ([(h0, .inr (2, [.ref qn_1, .int 0, .int 64, .int 9, .ref qa_3, .null, .int 0, .int 0, .int 0, .null])), (qn_1, .inr (0, tk_ev tk_e0)), (qa_3, .inl (cI, 4, .inl (fun _ => 0)))]) H := hP
  have hD : va_D A ([(h0, .inr (2, [.ref qn_1, .int 0, .int 64, .int 9, .ref qa_3, .null, .int 0, .int 0, .int 0, .null])), (qn_1, .inr (0, tk_ev tk_e0)), (qa_3, .inl (cI, 4, .inl (fun _ => 0)))]) := hD
  refine lv_aload_n hx hb dX2_init_39 rfl (lv_at hl 0 rfl) ?_
  refine lv_iconst (v := 4) hx hb dX2_init_40 (by decide) ?_
  refine ka_newI (N := 4) hx hb (hm 11 (.arrayClass .int) rfl) hK hP hD hS hA (by decide) (by decide) (by decide) (Nat.le_of_ble_eq_true rfl) (Nat.le_of_ble_eq_true rfl) dX2_init_41 (fun qa_4 H hP hD hS => ?_)
  have hP : va_P D vwCl ([(h0, .inr (2, [.ref qn_1, .int 0, .int 64, .int 9, .ref qa_3, .null, .int 0, .int 0, .int 0, .null])), (qn_1, .inr (0, tk_ev tk_e0)), (qa_3, .inl (cI, 4, .inl (fun _ => 0))), (qa_4, .inl (cI, 4, .inl (fun _ => 0)))]) H := hP
  have hD : va_D A ([(h0, .inr (2, [.ref qn_1, .int 0, .int 64, .int 9, .ref qa_3, .null, .int 0, .int 0, .int 0, .null])), (qn_1, .inr (0, tk_ev tk_e0)), (qa_3, .inl (cI, 4, .inl (fun _ => 0))), (qa_4, .inl (cI, 4, .inl (fun _ => 0)))]) := hD
  refine va_putF (D := D) (ci := 2) (v := .ref qa_4) (ty := .array .int) (C := RX2) (T := TX2) (N := 10) hx hb hts izX2_init_2 tyX2 tyX2_ok nmX2 hown hK hP hD hS 0 rfl rfl 5 (by decide) (hm 13 (.fieldLink RX2 32 "TankFilter$Memory" "sensorVariances" "[I") rfl) (fun _ h9 => h9) rfl hin rfl (by decide +kernel) rfl rfl (Nat.le_of_ble_eq_true rfl) dX2_init_43 (fun H locs hP hD hS => ?_)
  have hP : va_P D vwCl ([(h0, .inr (2, [.ref qn_1, .int 0, .int 64, .int 9, .ref qa_3, .ref qa_4, .int 0, .int 0, .int 0, .null])), (qn_1, .inr (0, tk_ev tk_e0)), (qa_3, .inl (cI, 4, .inl (fun _ => 0))), (qa_4, .inl (cI, 4, .inl (fun _ => 0)))]) H := hP
  have hD : va_D A ([(h0, .inr (2, [.ref qn_1, .int 0, .int 64, .int 9, .ref qa_3, .ref qa_4, .int 0, .int 0, .int 0, .null])), (qn_1, .inr (0, tk_ev tk_e0)), (qa_3, .inl (cI, 4, .inl (fun _ => 0))), (qa_4, .inl (cI, 4, .inl (fun _ => 0)))]) := hD
  refine lv_aload_n hx hb dX2_init_46 rfl (lv_at hl 0 rfl) ?_
  refine lv_iconst (v := 0) hx hb dX2_init_47 (by decide) ?_
  refine va_put (D := D) (ci := 2) (v := .int 0) (ty := .int) (C := RX2) (T := TX2) (N := 10) hx hb hts izX2_init_2 tyX2 tyX2_ok nmX2 hown hK hP hD hS 0 rfl rfl 6 (by decide) (hm 14 (.fieldLink RX2 35 "TankFilter$Memory" "acceptedCount" "I") rfl) (fun _ h9 => h9) rfl (by decide +kernel) rfl rfl (Nat.le_of_ble_eq_true rfl) dX2_init_48 (fun H locs hP hD hS => ?_)
  have hP : va_P D vwCl ([(h0, .inr (2, [.ref qn_1, .int 0, .int 64, .int 9, .ref qa_3, .ref qa_4, .int 0, .int 0, .int 0, .null])), (qn_1, .inr (0, tk_ev tk_e0)), (qa_3, .inl (cI, 4, .inl (fun _ => 0))), (qa_4, .inl (cI, 4, .inl (fun _ => 0)))]) H := hP
  have hD : va_D A ([(h0, .inr (2, [.ref qn_1, .int 0, .int 64, .int 9, .ref qa_3, .ref qa_4, .int 0, .int 0, .int 0, .null])), (qn_1, .inr (0, tk_ev tk_e0)), (qa_3, .inl (cI, 4, .inl (fun _ => 0))), (qa_4, .inl (cI, 4, .inl (fun _ => 0)))]) := hD
  refine lv_aload_n hx hb dX2_init_51 rfl (lv_at hl 0 rfl) ?_
  refine lv_iconst (v := 0) hx hb dX2_init_52 (by decide) ?_
  refine va_put (D := D) (ci := 2) (v := .int 0) (ty := .int) (C := RX2) (T := TX2) (N := 10) hx hb hts izX2_init_2 tyX2 tyX2_ok nmX2 hown hK hP hD hS 0 rfl rfl 7 (by decide) (hm 15 (.fieldLink RX2 38 "TankFilter$Memory" "rejectedCount" "I") rfl) (fun _ h9 => h9) rfl (by decide +kernel) rfl rfl (Nat.le_of_ble_eq_true rfl) dX2_init_53 (fun H locs hP hD hS => ?_)
  have hP : va_P D vwCl ([(h0, .inr (2, [.ref qn_1, .int 0, .int 64, .int 9, .ref qa_3, .ref qa_4, .int 0, .int 0, .int 0, .null])), (qn_1, .inr (0, tk_ev tk_e0)), (qa_3, .inl (cI, 4, .inl (fun _ => 0))), (qa_4, .inl (cI, 4, .inl (fun _ => 0)))]) H := hP
  have hD : va_D A ([(h0, .inr (2, [.ref qn_1, .int 0, .int 64, .int 9, .ref qa_3, .ref qa_4, .int 0, .int 0, .int 0, .null])), (qn_1, .inr (0, tk_ev tk_e0)), (qa_3, .inl (cI, 4, .inl (fun _ => 0))), (qa_4, .inl (cI, 4, .inl (fun _ => 0)))]) := hD
  refine lv_aload_n hx hb dX2_init_56 rfl (lv_at hl 0 rfl) ?_
  refine lv_iconst (v := 0) hx hb dX2_init_57 (by decide) ?_
  refine va_put (D := D) (ci := 2) (v := .int 0) (ty := .int) (C := RX2) (T := TX2) (N := 10) hx hb hts izX2_init_2 tyX2 tyX2_ok nmX2 hown hK hP hD hS 0 rfl rfl 8 (by decide) (hm 16 (.fieldLink RX2 41 "TankFilter$Memory" "missedCount" "I") rfl) (fun _ h9 => h9) rfl (by decide +kernel) rfl rfl (Nat.le_of_ble_eq_true rfl) dX2_init_58 (fun H locs hP hD hS => ?_)
  have hP : va_P D vwCl ([(h0, .inr (2, [.ref qn_1, .int 0, .int 64, .int 9, .ref qa_3, .ref qa_4, .int 0, .int 0, .int 0, .null])), (qn_1, .inr (0, tk_ev tk_e0)), (qa_3, .inl (cI, 4, .inl (fun _ => 0))), (qa_4, .inl (cI, 4, .inl (fun _ => 0)))]) H := hP
  have hD : va_D A ([(h0, .inr (2, [.ref qn_1, .int 0, .int 64, .int 9, .ref qa_3, .ref qa_4, .int 0, .int 0, .int 0, .null])), (qn_1, .inr (0, tk_ev tk_e0)), (qa_3, .inl (cI, 4, .inl (fun _ => 0))), (qa_4, .inl (cI, 4, .inl (fun _ => 0)))]) := hD
  refine lv_aload_n hx hb dX2_init_61 rfl (lv_at hl 0 rfl) ?_
  refine va_new (ci := 1) (fs := [.null, .null, .int 0]) (C := RX1) (T := TX1) (N := 3) hx hb hts izX2_init_1 tyX1 tyX1_ok hown (hm 17 (.classLink RX2 44 RX1) rfl) (hm 18 (.instantiable RX1 3) rfl) (hm 19 (.initialized RX1) rfl) hK hP hD hS hA rfl (fun j hj => by rcases (show j = 0 ∨ j = 1 ∨ j = 2 by omega) with rfl | rfl | rfl <;> rfl) (Nat.le_of_ble_eq_true rfl) (Nat.le_of_ble_eq_true rfl) dX2_init_62 (fun qn_5 H hP hD hS => ?_)
  have hP : va_P D vwCl ([(h0, .inr (2, [.ref qn_1, .int 0, .int 64, .int 9, .ref qa_3, .ref qa_4, .int 0, .int 0, .int 0, .null])), (qn_1, .inr (0, tk_ev tk_e0)), (qa_3, .inl (cI, 4, .inl (fun _ => 0))), (qa_4, .inl (cI, 4, .inl (fun _ => 0))), (qn_5, .inr (1, [.null, .null, .int 0]))]) H := hP
  have hD : va_D A ([(h0, .inr (2, [.ref qn_1, .int 0, .int 64, .int 9, .ref qa_3, .ref qa_4, .int 0, .int 0, .int 0, .null])), (qn_1, .inr (0, tk_ev tk_e0)), (qa_3, .inl (cI, 4, .inl (fun _ => 0))), (qa_4, .inl (cI, 4, .inl (fun _ => 0))), (qn_5, .inr (1, [.null, .null, .int 0]))]) := hD
  refine lv_dup hx hb dX2_init_65 rfl ?_
  obtain ⟨hP, hD⟩ := kp_sub (ws' := [(qn_5, .inr (1, [.null, .null, .int 0])), (h0, .inr (2, [.ref qn_1, .int 0, .int 64, .int 9, .ref qa_3, .ref qa_4, .int 0, .int 0, .int 0, .null])), (qn_1, .inr (0, tk_ev tk_e0)), (qa_3, .inl (cI, 4, .inl (fun _ => 0))), (qa_4, .inl (cI, 4, .inl (fun _ => 0)))]) hP hD [4, 0, 1, 2, 3] (by decide) rfl
  refine kc_v (wc := [(qn_5, .inr (1, [.null, .null, .int 0]))]) (wr := [(h0, .inr (2, [.ref qn_1, .int 0, .int 64, .int 9, .ref qa_3, .ref qa_4, .int 0, .int 0, .int 0, .null])), (qn_1, .inr (0, tk_ev tk_e0)), (qa_3, .inl (cI, 4, .inl (fun _ => 0))), (qa_4, .inl (cI, 4, .inl (fun _ => 0)))]) (va_runIN (As := []) (rest := [.ref qn_5, .ref h0]) ⟨hx, hb, hml, hown, hts⟩ (k_X1_init l D cI cM cJ _ qn_5) ⟨va_cnB 0 hts gX2_init_X1_init_n46 rfl rfl rfl (hN.at 10 rfl) (hm 19 (.initialized RX1) rfl) (by decide +kernel) ⟨Nat.le_of_ble_eq_true rfl, Nat.le_of_ble_eq_true rfl⟩, rfl, (hm 34 (.instanceMethod yX1_init) rfl)⟩ (kp_preS (wc := [(qn_5, .inr (1, [.null, .null, .int 0]))]) (wr := [(h0, .inr (2, [.ref qn_1, .int 0, .int 64, .int 9, .ref qa_3, .ref qa_4, .int 0, .int 0, .int 0, .null])), (qn_1, .inr (0, tk_ev tk_e0)), (qa_3, .inl (cI, 4, .inl (fun _ => 0))), (qa_4, .inl (cI, 4, .inl (fun _ => 0)))]) hN hK hP hD) rfl rfl hl.1 rfl (lv_room (Nat.le_of_ble_eq_true rfl)) dX2_init_66 ⟨Nat.le_of_ble_eq_true rfl, Nat.le_of_ble_eq_true rfl⟩) hP hD hS hA (fun u_6 H locs p_6 hP hD hS => ?_)
  have hP : va_P D vwCl ([(qn_5, .inr (1, [.ref u_6.1, .ref u_6.2, .int 0])), (u_6.1, .inl (cI, 24, .inl (fun _ => 0))), (u_6.2, .inl (cI, 24, .inl (fun _ => 0))), (h0, .inr (2, [.ref qn_1, .int 0, .int 64, .int 9, .ref qa_3, .ref qa_4, .int 0, .int 0, .int 0, .null])), (qn_1, .inr (0, tk_ev tk_e0)), (qa_3, .inl (cI, 4, .inl (fun _ => 0))), (qa_4, .inl (cI, 4, .inl (fun _ => 0)))]) H := hP
  have hD : va_D A ([(qn_5, .inr (1, [.ref u_6.1, .ref u_6.2, .int 0])), (u_6.1, .inl (cI, 24, .inl (fun _ => 0))), (u_6.2, .inl (cI, 24, .inl (fun _ => 0))), (h0, .inr (2, [.ref qn_1, .int 0, .int 64, .int 9, .ref qa_3, .ref qa_4, .int 0, .int 0, .int 0, .null])), (qn_1, .inr (0, tk_ev tk_e0)), (qa_3, .inl (cI, 4, .inl (fun _ => 0))), (qa_4, .inl (cI, 4, .inl (fun _ => 0)))]) := hD
  refine va_putF (D := D) (ci := 2) (v := .ref qn_5) (ty := .object "TankFilter$History") (C := RX2) (T := TX2) (N := 10) hx hb hts izX2_init_2 tyX2 tyX2_ok nmX2 hown hK hP hD hS 3 rfl rfl 9 (by decide) (hm 20 (.fieldLink RX2 47 "TankFilter$Memory" "history" "LTankFilter$History;") rfl) (fun _ h9 => h9) rfl hin rfl (by decide +kernel) rfl rfl (Nat.le_of_ble_eq_true rfl) dX2_init_69 (fun H locs hP hD hS => ?_)
  have hP : va_P D vwCl ([(qn_5, .inr (1, [.ref u_6.1, .ref u_6.2, .int 0])), (u_6.1, .inl (cI, 24, .inl (fun _ => 0))), (u_6.2, .inl (cI, 24, .inl (fun _ => 0))), (h0, .inr (2, [.ref qn_1, .int 0, .int 64, .int 9, .ref qa_3, .ref qa_4, .int 0, .int 0, .int 0, .ref qn_5])), (qn_1, .inr (0, tk_ev tk_e0)), (qa_3, .inl (cI, 4, .inl (fun _ => 0))), (qa_4, .inl (cI, 4, .inl (fun _ => 0)))]) H := hP
  have hD : va_D A ([(qn_5, .inr (1, [.ref u_6.1, .ref u_6.2, .int 0])), (u_6.1, .inl (cI, 24, .inl (fun _ => 0))), (u_6.2, .inl (cI, 24, .inl (fun _ => 0))), (h0, .inr (2, [.ref qn_1, .int 0, .int 64, .int 9, .ref qa_3, .ref qa_4, .int 0, .int 0, .int 0, .ref qn_5])), (qn_1, .inr (0, tk_ev tk_e0)), (qa_3, .inl (cI, 4, .inl (fun _ => 0))), (qa_4, .inl (cI, 4, .inl (fun _ => 0)))]) := hD
  refine lv_iconst (v := 0) hx hb dX2_init_72 (by decide) ?_
  refine lv_istore_n (lv' := [(1, .int 0), (0, .ref h0)]) hx hb dX2_init_73 rfl hl (by decide) rfl (fun ls hl => ?_)
  refine lv_iload_n hx hb dX2_init_74 rfl (lv_at hl 0 rfl) ?_
  refine lv_iconst (v := 4) hx hb dX2_init_75 (by decide) ?_
  refine lv_icmp_ge (tgt := 101) hx hb dX2_init_76 (by decide) (fun c_7 => ?_) (fun c_7 => ?_)
  · exact absurd c_7 (by decide)
  · skip
    refine lv_aload_n hx hb dX2_init_79 rfl (lv_at hl 1 rfl) ?_
    refine va_get (D := D) (ci := 2) (v := .ref qa_3) (C := RX2) (T := TX2) (N := 10) hx hb hts izX2_init_2 hown hK hP 3 rfl rfl 4 (by decide) (hm 12 (.fieldLink RX2 28 "TankFilter$Memory" "sensorKinds" "[I") rfl) (fun _ h9 => h9) rfl dX2_init_80 ?_
    refine lv_iload_n hx hb dX2_init_83 rfl (lv_at hl 0 rfl) ?_
    refine lv_iconst (v := 0) hx hb dX2_init_84 (by decide) ?_
    refine ka_ist (D := D) (j := 0) (n := 4) (f := fun _ => 0) hx hb hK hP hD hS 5 0 rfl rfl (rfl) (by decide) (by decide) dX2_init_85 (fun H locs hP hD hS => ?_)
    have hP : va_P D vwCl ([(qn_5, .inr (1, [.ref u_6.1, .ref u_6.2, .int 0])), (u_6.1, .inl (cI, 24, .inl (fun _ => 0))), (u_6.2, .inl (cI, 24, .inl (fun _ => 0))), (h0, .inr (2, [.ref qn_1, .int 0, .int 64, .int 9, .ref qa_3, .ref qa_4, .int 0, .int 0, .int 0, .ref qn_5])), (qn_1, .inr (0, tk_ev tk_e0)), (qa_3, .inl (cI, 4, .inl (upd (fun _ => 0) 0 0))), (qa_4, .inl (cI, 4, .inl (fun _ => 0)))]) H := hP
    have hD : va_D A ([(qn_5, .inr (1, [.ref u_6.1, .ref u_6.2, .int 0])), (u_6.1, .inl (cI, 24, .inl (fun _ => 0))), (u_6.2, .inl (cI, 24, .inl (fun _ => 0))), (h0, .inr (2, [.ref qn_1, .int 0, .int 64, .int 9, .ref qa_3, .ref qa_4, .int 0, .int 0, .int 0, .ref qn_5])), (qn_1, .inr (0, tk_ev tk_e0)), (qa_3, .inl (cI, 4, .inl (upd (fun _ => 0) 0 0))), (qa_4, .inl (cI, 4, .inl (fun _ => 0)))]) := hD
    refine lv_aload_n hx hb dX2_init_86 rfl (lv_at hl 1 rfl) ?_
    refine va_get (D := D) (ci := 2) (v := .ref qa_4) (C := RX2) (T := TX2) (N := 10) hx hb hts izX2_init_2 hown hK hP 3 rfl rfl 5 (by decide) (hm 13 (.fieldLink RX2 32 "TankFilter$Memory" "sensorVariances" "[I") rfl) (fun _ h9 => h9) rfl dX2_init_87 ?_
    refine lv_iload_n hx hb dX2_init_90 rfl (lv_at hl 0 rfl) ?_
    refine lv_sipush (v := 4096) hx hb dX2_init_91 (by decide) ?_
    refine ka_ist (D := D) (j := 0) (n := 4) (f := fun _ => 0) hx hb hK hP hD hS 6 0 rfl rfl (rfl) (by decide) (by decide) dX2_init_94 (fun H locs hP hD hS => ?_)
    have hP : va_P D vwCl ([(qn_5, .inr (1, [.ref u_6.1, .ref u_6.2, .int 0])), (u_6.1, .inl (cI, 24, .inl (fun _ => 0))), (u_6.2, .inl (cI, 24, .inl (fun _ => 0))), (h0, .inr (2, [.ref qn_1, .int 0, .int 64, .int 9, .ref qa_3, .ref qa_4, .int 0, .int 0, .int 0, .ref qn_5])), (qn_1, .inr (0, tk_ev tk_e0)), (qa_3, .inl (cI, 4, .inl (upd (fun _ => 0) 0 0))), (qa_4, .inl (cI, 4, .inl (upd (fun _ => 0) 0 4096)))]) H := hP
    have hD : va_D A ([(qn_5, .inr (1, [.ref u_6.1, .ref u_6.2, .int 0])), (u_6.1, .inl (cI, 24, .inl (fun _ => 0))), (u_6.2, .inl (cI, 24, .inl (fun _ => 0))), (h0, .inr (2, [.ref qn_1, .int 0, .int 64, .int 9, .ref qa_3, .ref qa_4, .int 0, .int 0, .int 0, .ref qn_5])), (qn_1, .inr (0, tk_ev tk_e0)), (qa_3, .inl (cI, 4, .inl (upd (fun _ => 0) 0 0))), (qa_4, .inl (cI, 4, .inl (upd (fun _ => 0) 0 4096)))]) := hD
    refine lv_iinc (v := 1) (lv' := [(1, .int 1), (0, .ref h0)]) hx hb dX2_init_95 hl (k := 0) rfl (by decide) (by decide) rfl (fun ls hl => ?_)
    refine lv_goto (tgt := 74) hx hb dX2_init_98 (by decide) ?_
    refine lv_iload_n hx hb dX2_init_74 rfl (lv_at hl 0 rfl) ?_
    refine lv_iconst (v := 4) hx hb dX2_init_75 (by decide) ?_
    refine lv_icmp_ge (tgt := 101) hx hb dX2_init_76 (by decide) (fun c_8 => ?_) (fun c_8 => ?_)
    · exact absurd c_8 (by decide)
    · skip
      refine lv_aload_n hx hb dX2_init_79 rfl (lv_at hl 1 rfl) ?_
      refine va_get (D := D) (ci := 2) (v := .ref qa_3) (C := RX2) (T := TX2) (N := 10) hx hb hts izX2_init_2 hown hK hP 3 rfl rfl 4 (by decide) (hm 12 (.fieldLink RX2 28 "TankFilter$Memory" "sensorKinds" "[I") rfl) (fun _ h9 => h9) rfl dX2_init_80 ?_
      refine lv_iload_n hx hb dX2_init_83 rfl (lv_at hl 0 rfl) ?_
      refine lv_iconst (v := 0) hx hb dX2_init_84 (by decide) ?_
      refine ka_ist (D := D) (j := 1) (n := 4) (f := upd (fun _ => 0) 0 0) hx hb hK hP hD hS 5 0 rfl rfl (rfl) (by decide) (by decide) dX2_init_85 (fun H locs hP hD hS => ?_)
      have hP : va_P D vwCl ([(qn_5, .inr (1, [.ref u_6.1, .ref u_6.2, .int 0])), (u_6.1, .inl (cI, 24, .inl (fun _ => 0))), (u_6.2, .inl (cI, 24, .inl (fun _ => 0))), (h0, .inr (2, [.ref qn_1, .int 0, .int 64, .int 9, .ref qa_3, .ref qa_4, .int 0, .int 0, .int 0, .ref qn_5])), (qn_1, .inr (0, tk_ev tk_e0)), (qa_3, .inl (cI, 4, .inl (upd (upd (fun _ => 0) 0 0) 1 0))), (qa_4, .inl (cI, 4, .inl (upd (fun _ => 0) 0 4096)))]) H := hP
      have hD : va_D A ([(qn_5, .inr (1, [.ref u_6.1, .ref u_6.2, .int 0])), (u_6.1, .inl (cI, 24, .inl (fun _ => 0))), (u_6.2, .inl (cI, 24, .inl (fun _ => 0))), (h0, .inr (2, [.ref qn_1, .int 0, .int 64, .int 9, .ref qa_3, .ref qa_4, .int 0, .int 0, .int 0, .ref qn_5])), (qn_1, .inr (0, tk_ev tk_e0)), (qa_3, .inl (cI, 4, .inl (upd (upd (fun _ => 0) 0 0) 1 0))), (qa_4, .inl (cI, 4, .inl (upd (fun _ => 0) 0 4096)))]) := hD
      refine lv_aload_n hx hb dX2_init_86 rfl (lv_at hl 1 rfl) ?_
      refine va_get (D := D) (ci := 2) (v := .ref qa_4) (C := RX2) (T := TX2) (N := 10) hx hb hts izX2_init_2 hown hK hP 3 rfl rfl 5 (by decide) (hm 13 (.fieldLink RX2 32 "TankFilter$Memory" "sensorVariances" "[I") rfl) (fun _ h9 => h9) rfl dX2_init_87 ?_
      refine lv_iload_n hx hb dX2_init_90 rfl (lv_at hl 0 rfl) ?_
      refine lv_sipush (v := 4096) hx hb dX2_init_91 (by decide) ?_
      refine ka_ist (D := D) (j := 1) (n := 4) (f := upd (fun _ => 0) 0 4096) hx hb hK hP hD hS 6 0 rfl rfl (rfl) (by decide) (by decide) dX2_init_94 (fun H locs hP hD hS => ?_)
      have hP : va_P D vwCl ([(qn_5, .inr (1, [.ref u_6.1, .ref u_6.2, .int 0])), (u_6.1, .inl (cI, 24, .inl (fun _ => 0))), (u_6.2, .inl (cI, 24, .inl (fun _ => 0))), (h0, .inr (2, [.ref qn_1, .int 0, .int 64, .int 9, .ref qa_3, .ref qa_4, .int 0, .int 0, .int 0, .ref qn_5])), (qn_1, .inr (0, tk_ev tk_e0)), (qa_3, .inl (cI, 4, .inl (upd (upd (fun _ => 0) 0 0) 1 0))), (qa_4, .inl (cI, 4, .inl (upd (upd (fun _ => 0) 0 4096) 1 4096)))]) H := hP
      have hD : va_D A ([(qn_5, .inr (1, [.ref u_6.1, .ref u_6.2, .int 0])), (u_6.1, .inl (cI, 24, .inl (fun _ => 0))), (u_6.2, .inl (cI, 24, .inl (fun _ => 0))), (h0, .inr (2, [.ref qn_1, .int 0, .int 64, .int 9, .ref qa_3, .ref qa_4, .int 0, .int 0, .int 0, .ref qn_5])), (qn_1, .inr (0, tk_ev tk_e0)), (qa_3, .inl (cI, 4, .inl (upd (upd (fun _ => 0) 0 0) 1 0))), (qa_4, .inl (cI, 4, .inl (upd (upd (fun _ => 0) 0 4096) 1 4096)))]) := hD
      refine lv_iinc (v := 2) (lv' := [(1, .int 2), (0, .ref h0)]) hx hb dX2_init_95 hl (k := 0) rfl (by decide) (by decide) rfl (fun ls hl => ?_)
      refine lv_goto (tgt := 74) hx hb dX2_init_98 (by decide) ?_
      refine lv_iload_n hx hb dX2_init_74 rfl (lv_at hl 0 rfl) ?_
      refine lv_iconst (v := 4) hx hb dX2_init_75 (by decide) ?_
      refine lv_icmp_ge (tgt := 101) hx hb dX2_init_76 (by decide) (fun c_9 => ?_) (fun c_9 => ?_)
      · exact absurd c_9 (by decide)
      · skip
        refine lv_aload_n hx hb dX2_init_79 rfl (lv_at hl 1 rfl) ?_
        refine va_get (D := D) (ci := 2) (v := .ref qa_3) (C := RX2) (T := TX2) (N := 10) hx hb hts izX2_init_2 hown hK hP 3 rfl rfl 4 (by decide) (hm 12 (.fieldLink RX2 28 "TankFilter$Memory" "sensorKinds" "[I") rfl) (fun _ h9 => h9) rfl dX2_init_80 ?_
        refine lv_iload_n hx hb dX2_init_83 rfl (lv_at hl 0 rfl) ?_
        refine lv_iconst (v := 0) hx hb dX2_init_84 (by decide) ?_
        refine ka_ist (D := D) (j := 2) (n := 4) (f := upd (upd (fun _ => 0) 0 0) 1 0) hx hb hK hP hD hS 5 0 rfl rfl (rfl) (by decide) (by decide) dX2_init_85 (fun H locs hP hD hS => ?_)
        have hP : va_P D vwCl ([(qn_5, .inr (1, [.ref u_6.1, .ref u_6.2, .int 0])), (u_6.1, .inl (cI, 24, .inl (fun _ => 0))), (u_6.2, .inl (cI, 24, .inl (fun _ => 0))), (h0, .inr (2, [.ref qn_1, .int 0, .int 64, .int 9, .ref qa_3, .ref qa_4, .int 0, .int 0, .int 0, .ref qn_5])), (qn_1, .inr (0, tk_ev tk_e0)), (qa_3, .inl (cI, 4, .inl (upd (upd (upd (fun _ => 0) 0 0) 1 0) 2 0))), (qa_4, .inl (cI, 4, .inl (upd (upd (fun _ => 0) 0 4096) 1 4096)))]) H := hP
        have hD : va_D A ([(qn_5, .inr (1, [.ref u_6.1, .ref u_6.2, .int 0])), (u_6.1, .inl (cI, 24, .inl (fun _ => 0))), (u_6.2, .inl (cI, 24, .inl (fun _ => 0))), (h0, .inr (2, [.ref qn_1, .int 0, .int 64, .int 9, .ref qa_3, .ref qa_4, .int 0, .int 0, .int 0, .ref qn_5])), (qn_1, .inr (0, tk_ev tk_e0)), (qa_3, .inl (cI, 4, .inl (upd (upd (upd (fun _ => 0) 0 0) 1 0) 2 0))), (qa_4, .inl (cI, 4, .inl (upd (upd (fun _ => 0) 0 4096) 1 4096)))]) := hD
        refine lv_aload_n hx hb dX2_init_86 rfl (lv_at hl 1 rfl) ?_
        refine va_get (D := D) (ci := 2) (v := .ref qa_4) (C := RX2) (T := TX2) (N := 10) hx hb hts izX2_init_2 hown hK hP 3 rfl rfl 5 (by decide) (hm 13 (.fieldLink RX2 32 "TankFilter$Memory" "sensorVariances" "[I") rfl) (fun _ h9 => h9) rfl dX2_init_87 ?_
        refine lv_iload_n hx hb dX2_init_90 rfl (lv_at hl 0 rfl) ?_
        refine lv_sipush (v := 4096) hx hb dX2_init_91 (by decide) ?_
        refine ka_ist (D := D) (j := 2) (n := 4) (f := upd (upd (fun _ => 0) 0 4096) 1 4096) hx hb hK hP hD hS 6 0 rfl rfl (rfl) (by decide) (by decide) dX2_init_94 (fun H locs hP hD hS => ?_)
        have hP : va_P D vwCl ([(qn_5, .inr (1, [.ref u_6.1, .ref u_6.2, .int 0])), (u_6.1, .inl (cI, 24, .inl (fun _ => 0))), (u_6.2, .inl (cI, 24, .inl (fun _ => 0))), (h0, .inr (2, [.ref qn_1, .int 0, .int 64, .int 9, .ref qa_3, .ref qa_4, .int 0, .int 0, .int 0, .ref qn_5])), (qn_1, .inr (0, tk_ev tk_e0)), (qa_3, .inl (cI, 4, .inl (upd (upd (upd (fun _ => 0) 0 0) 1 0) 2 0))), (qa_4, .inl (cI, 4, .inl (upd (upd (upd (fun _ => 0) 0 4096) 1 4096) 2 4096)))]) H := hP
        have hD : va_D A ([(qn_5, .inr (1, [.ref u_6.1, .ref u_6.2, .int 0])), (u_6.1, .inl (cI, 24, .inl (fun _ => 0))), (u_6.2, .inl (cI, 24, .inl (fun _ => 0))), (h0, .inr (2, [.ref qn_1, .int 0, .int 64, .int 9, .ref qa_3, .ref qa_4, .int 0, .int 0, .int 0, .ref qn_5])), (qn_1, .inr (0, tk_ev tk_e0)), (qa_3, .inl (cI, 4, .inl (upd (upd (upd (fun _ => 0) 0 0) 1 0) 2 0))), (qa_4, .inl (cI, 4, .inl (upd (upd (upd (fun _ => 0) 0 4096) 1 4096) 2 4096)))]) := hD
        refine lv_iinc (v := 3) (lv' := [(1, .int 3), (0, .ref h0)]) hx hb dX2_init_95 hl (k := 0) rfl (by decide) (by decide) rfl (fun ls hl => ?_)
        refine lv_goto (tgt := 74) hx hb dX2_init_98 (by decide) ?_
        refine lv_iload_n hx hb dX2_init_74 rfl (lv_at hl 0 rfl) ?_
        refine lv_iconst (v := 4) hx hb dX2_init_75 (by decide) ?_
        refine lv_icmp_ge (tgt := 101) hx hb dX2_init_76 (by decide) (fun c_10 => ?_) (fun c_10 => ?_)
        · exact absurd c_10 (by decide)
        · skip
          refine lv_aload_n hx hb dX2_init_79 rfl (lv_at hl 1 rfl) ?_
          refine va_get (D := D) (ci := 2) (v := .ref qa_3) (C := RX2) (T := TX2) (N := 10) hx hb hts izX2_init_2 hown hK hP 3 rfl rfl 4 (by decide) (hm 12 (.fieldLink RX2 28 "TankFilter$Memory" "sensorKinds" "[I") rfl) (fun _ h9 => h9) rfl dX2_init_80 ?_
          refine lv_iload_n hx hb dX2_init_83 rfl (lv_at hl 0 rfl) ?_
          refine lv_iconst (v := 0) hx hb dX2_init_84 (by decide) ?_
          refine ka_ist (D := D) (j := 3) (n := 4) (f := upd (upd (upd (fun _ => 0) 0 0) 1 0) 2 0) hx hb hK hP hD hS 5 0 rfl rfl (rfl) (by decide) (by decide) dX2_init_85 (fun H locs hP hD hS => ?_)
          have hP : va_P D vwCl ([(qn_5, .inr (1, [.ref u_6.1, .ref u_6.2, .int 0])), (u_6.1, .inl (cI, 24, .inl (fun _ => 0))), (u_6.2, .inl (cI, 24, .inl (fun _ => 0))), (h0, .inr (2, [.ref qn_1, .int 0, .int 64, .int 9, .ref qa_3, .ref qa_4, .int 0, .int 0, .int 0, .ref qn_5])), (qn_1, .inr (0, tk_ev tk_e0)), (qa_3, .inl (cI, 4, .inl (upd (upd (upd (upd (fun _ => 0) 0 0) 1 0) 2 0) 3 0))), (qa_4, .inl (cI, 4, .inl (upd (upd (upd (fun _ => 0) 0 4096) 1 4096) 2 4096)))]) H := hP
          have hD : va_D A ([(qn_5, .inr (1, [.ref u_6.1, .ref u_6.2, .int 0])), (u_6.1, .inl (cI, 24, .inl (fun _ => 0))), (u_6.2, .inl (cI, 24, .inl (fun _ => 0))), (h0, .inr (2, [.ref qn_1, .int 0, .int 64, .int 9, .ref qa_3, .ref qa_4, .int 0, .int 0, .int 0, .ref qn_5])), (qn_1, .inr (0, tk_ev tk_e0)), (qa_3, .inl (cI, 4, .inl (upd (upd (upd (upd (fun _ => 0) 0 0) 1 0) 2 0) 3 0))), (qa_4, .inl (cI, 4, .inl (upd (upd (upd (fun _ => 0) 0 4096) 1 4096) 2 4096)))]) := hD
          refine lv_aload_n hx hb dX2_init_86 rfl (lv_at hl 1 rfl) ?_
          refine va_get (D := D) (ci := 2) (v := .ref qa_4) (C := RX2) (T := TX2) (N := 10) hx hb hts izX2_init_2 hown hK hP 3 rfl rfl 5 (by decide) (hm 13 (.fieldLink RX2 32 "TankFilter$Memory" "sensorVariances" "[I") rfl) (fun _ h9 => h9) rfl dX2_init_87 ?_
          refine lv_iload_n hx hb dX2_init_90 rfl (lv_at hl 0 rfl) ?_
          refine lv_sipush (v := 4096) hx hb dX2_init_91 (by decide) ?_
          refine ka_ist (D := D) (j := 3) (n := 4) (f := upd (upd (upd (fun _ => 0) 0 4096) 1 4096) 2 4096) hx hb hK hP hD hS 6 0 rfl rfl (rfl) (by decide) (by decide) dX2_init_94 (fun H locs hP hD hS => ?_)
          have hP : va_P D vwCl ([(qn_5, .inr (1, [.ref u_6.1, .ref u_6.2, .int 0])), (u_6.1, .inl (cI, 24, .inl (fun _ => 0))), (u_6.2, .inl (cI, 24, .inl (fun _ => 0))), (h0, .inr (2, [.ref qn_1, .int 0, .int 64, .int 9, .ref qa_3, .ref qa_4, .int 0, .int 0, .int 0, .ref qn_5])), (qn_1, .inr (0, tk_ev tk_e0)), (qa_3, .inl (cI, 4, .inl (upd (upd (upd (upd (fun _ => 0) 0 0) 1 0) 2 0) 3 0))), (qa_4, .inl (cI, 4, .inl (upd (upd (upd (upd (fun _ => 0) 0 4096) 1 4096) 2 4096) 3 4096)))]) H := hP
          have hD : va_D A ([(qn_5, .inr (1, [.ref u_6.1, .ref u_6.2, .int 0])), (u_6.1, .inl (cI, 24, .inl (fun _ => 0))), (u_6.2, .inl (cI, 24, .inl (fun _ => 0))), (h0, .inr (2, [.ref qn_1, .int 0, .int 64, .int 9, .ref qa_3, .ref qa_4, .int 0, .int 0, .int 0, .ref qn_5])), (qn_1, .inr (0, tk_ev tk_e0)), (qa_3, .inl (cI, 4, .inl (upd (upd (upd (upd (fun _ => 0) 0 0) 1 0) 2 0) 3 0))), (qa_4, .inl (cI, 4, .inl (upd (upd (upd (upd (fun _ => 0) 0 4096) 1 4096) 2 4096) 3 4096)))]) := hD
          refine lv_iinc (v := 4) (lv' := [(1, .int 4), (0, .ref h0)]) hx hb dX2_init_95 hl (k := 0) rfl (by decide) (by decide) rfl (fun ls hl => ?_)
          refine lv_goto (tgt := 74) hx hb dX2_init_98 (by decide) ?_
          refine lv_iload_n hx hb dX2_init_74 rfl (lv_at hl 0 rfl) ?_
          refine lv_iconst (v := 4) hx hb dX2_init_75 (by decide) ?_
          refine lv_icmp_ge (tgt := 101) hx hb dX2_init_76 (by decide) (fun c_11 => ?_) (fun c_11 => ?_)
          · skip
            obtain ⟨hP, hD⟩ := kp_arrI hP hD 5 rfl (fun _ => 0) (fun j hj => by rcases (show j = 0 ∨ j = 1 ∨ j = 2 ∨ j = 3 by omega) with rfl | rfl | rfl | rfl <;> rfl)
            have hP : va_P D vwCl ([(qn_5, .inr (1, [.ref u_6.1, .ref u_6.2, .int 0])), (u_6.1, .inl (cI, 24, .inl (fun _ => 0))), (u_6.2, .inl (cI, 24, .inl (fun _ => 0))), (h0, .inr (2, [.ref qn_1, .int 0, .int 64, .int 9, .ref qa_3, .ref qa_4, .int 0, .int 0, .int 0, .ref qn_5])), (qn_1, .inr (0, tk_ev tk_e0)), (qa_3, .inl (cI, 4, .inl (fun _ => 0))), (qa_4, .inl (cI, 4, .inl (upd (upd (upd (upd (fun _ => 0) 0 4096) 1 4096) 2 4096) 3 4096)))]) H := hP
            have hD : va_D A ([(qn_5, .inr (1, [.ref u_6.1, .ref u_6.2, .int 0])), (u_6.1, .inl (cI, 24, .inl (fun _ => 0))), (u_6.2, .inl (cI, 24, .inl (fun _ => 0))), (h0, .inr (2, [.ref qn_1, .int 0, .int 64, .int 9, .ref qa_3, .ref qa_4, .int 0, .int 0, .int 0, .ref qn_5])), (qn_1, .inr (0, tk_ev tk_e0)), (qa_3, .inl (cI, 4, .inl (fun _ => 0))), (qa_4, .inl (cI, 4, .inl (upd (upd (upd (upd (fun _ => 0) 0 4096) 1 4096) 2 4096) 3 4096)))]) := hD
            obtain ⟨hP, hD⟩ := kp_arrI hP hD 6 rfl (fun _ => 4096) (fun j hj => by rcases (show j = 0 ∨ j = 1 ∨ j = 2 ∨ j = 3 by omega) with rfl | rfl | rfl | rfl <;> rfl)
            have hP : va_P D vwCl ([(qn_5, .inr (1, [.ref u_6.1, .ref u_6.2, .int 0])), (u_6.1, .inl (cI, 24, .inl (fun _ => 0))), (u_6.2, .inl (cI, 24, .inl (fun _ => 0))), (h0, .inr (2, [.ref qn_1, .int 0, .int 64, .int 9, .ref qa_3, .ref qa_4, .int 0, .int 0, .int 0, .ref qn_5])), (qn_1, .inr (0, tk_ev tk_e0)), (qa_3, .inl (cI, 4, .inl (fun _ => 0))), (qa_4, .inl (cI, 4, .inl (fun _ => 4096)))]) H := hP
            have hD : va_D A ([(qn_5, .inr (1, [.ref u_6.1, .ref u_6.2, .int 0])), (u_6.1, .inl (cI, 24, .inl (fun _ => 0))), (u_6.2, .inl (cI, 24, .inl (fun _ => 0))), (h0, .inr (2, [.ref qn_1, .int 0, .int 64, .int 9, .ref qa_3, .ref qa_4, .int 0, .int 0, .int 0, .ref qn_5])), (qn_1, .inr (0, tk_ev tk_e0)), (qa_3, .inl (cI, 4, .inl (fun _ => 0))), (qa_4, .inl (cI, 4, .inl (fun _ => 4096)))]) := hD
            obtain ⟨hP, hD⟩ := kp_sub (ws' := [(h0, .inr (2, [.ref qn_1, .int 0, .int 64, .int 9, .ref qa_3, .ref qa_4, .int 0, .int 0, .int 0, .ref qn_5])), (qn_1, .inr (0, tk_ev tk_e0)), (qa_3, .inl (cI, 4, .inl (fun _ => 0))), (qa_4, .inl (cI, 4, .inl (fun _ => 4096))), (qn_5, .inr (1, [.ref u_6.1, .ref u_6.2, .int 0])), (u_6.1, .inl (cI, 24, .inl (fun _ => 0))), (u_6.2, .inl (cI, 24, .inl (fun _ => 0)))]) hP hD [3, 4, 5, 6, 0, 1, 2] (by decide) rfl
            have hP : va_P D vwCl ([(h0, .inr (2, [.ref qn_1, .int 0, .int 64, .int 9, .ref qa_3, .ref qa_4, .int 0, .int 0, .int 0, .ref qn_5])), (qn_1, .inr (0, tk_ev tk_e0)), (qa_3, .inl (cI, 4, .inl (fun _ => 0))), (qa_4, .inl (cI, 4, .inl (fun _ => 4096))), (qn_5, .inr (1, [.ref u_6.1, .ref u_6.2, .int 0])), (u_6.1, .inl (cI, 24, .inl (fun _ => 0))), (u_6.2, .inl (cI, 24, .inl (fun _ => 0)))]) H := hP
            have hD : va_D A ([(h0, .inr (2, [.ref qn_1, .int 0, .int 64, .int 9, .ref qa_3, .ref qa_4, .int 0, .int 0, .int 0, .ref qn_5])), (qn_1, .inr (0, tk_ev tk_e0)), (qa_3, .inl (cI, 4, .inl (fun _ => 0))), (qa_4, .inl (cI, 4, .inl (fun _ => 4096))), (qn_5, .inr (1, [.ref u_6.1, .ref u_6.2, .int 0])), (u_6.1, .inl (cI, 24, .inl (fun _ => 0))), (u_6.2, .inl (cI, 24, .inl (fun _ => 0)))]) := hD
            exact W.vret hx hb hr (fun zt ht hW => ⟨⟨(fun i => match i with | 0 => h0 | 1 => qn_1 | 2 => qa_3 | 3 => qa_4 | 4 => qn_5 | 5 => u_6.1 | _ => u_6.2), rfl, rfl, KB.of hAe (by rw [ht]; exact hP) hD⟩, hS.F ht⟩) hS.2.2 dX2_init_101
          · exact absurd c_11 (by decide)
